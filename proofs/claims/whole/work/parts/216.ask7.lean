/-! the same answer: between, pairs, the hull, counts, bands -/
section
variable {N : Nat} {g b : Int → Int}
def bwW (g b : Int → Int) (w r : Int) : Int := if w = 0 then cG g b r else if w = 1 then cB g b r else r
def clm (i j y : Int) : Int := if y < i then i else if y < j then y else j
theorem between_b44_ok (ok : okP g b) {stt sc go ba : Int → Int} (hr : RwA g b sc go ba) {c d w : Int} (hc : 0 ≤ c ∧ c ≤ d) (hd : d ≤ 1000) (hw : 0 ≤ w ∧ w ≤ 2) : ∀ (f : Nat) (y4 y5 : Int), 0 ≤ y5 → y5 ≤ cn g b → y4 = bwW g b w (clm (lb g b c) (lb g b d) y5) - bwW g b w (lb g b c) → (cn g b - y5).toNat < f → Rt (m_X13_between_b44 N stt c d w (cn g b) sc go ba f y4 y5) (bwW g b w (lb g b d) - bwW g b w (lb g b c)) := by
  have ok2 := ok.2.1
  have l1 := lb_in (g := g) (b := b) (c := c) (by omega)
  have l2 := lb_in (g := g) (b := b) (c := d) (by omega)
  have lm := lb_mono (g := g) (b := b) hc.2
  intro f
  induction f with
  | zero => intro y4 y5 _ _ _ h; omega
  | succ f ih =>
    intro y4 y5 h0 h1 hy hf
    rw [m_X13_between_b44]
    by_cases e : cn g b ≤ y5
    · have ec : clm (lb g b c) (lb g b d) y5 = lb g b d := by
        unfold clm
        by_cases a : y5 < lb g b c
        · omega
        · rw [if_neg a]
          by_cases a : y5 < lb g b d
          · omega
          · rw [if_neg a]
      repeat (first | (with_reducible refine Rt.gd ?_ ?_; focus (first | omega | assumption | ((repeat' refine And.intro ?_ ?_) <;> first | omega | assumption) | fail)) | (with_reducible refine Rt.ip ?_ ?_; focus (first | omega | assumption | ((repeat' refine And.intro ?_ ?_) <;> first | omega | assumption) | fail)) | (with_reducible refine Rt.in_ ?_ ?_; focus (first | omega | assumption | ((repeat' refine And.intro ?_ ?_) <;> first | omega | assumption) | fail)) | (rw [so_bd]; try dsimp only))
      rw [hy, ec]
      exact Rt.so
    · obtain ⟨a1, a2, a3⟩ := hr y5 h0 (by omega)
      have ci := cs_in (g := g) (b := b) h0 (show y5 < cn g b by omega)
      have q1 := lb_lt (g := g) (b := b) (c := c) (i := y5) ⟨hc.1, by omega⟩ h0 (by omega)
      have q2 := lb_lt (g := g) (b := b) (c := d) (i := y5) ⟨by omega, by omega⟩ h0 (by omega)
      rw [a1]
      by_cases x : cs g b y5 < c
      · have e1 : clm (lb g b c) (lb g b d) y5 = lb g b c := if_pos (by omega)
        have e2 : clm (lb g b c) (lb g b d) (y5 + 1) = lb g b c := by
          unfold clm
          by_cases a : y5 + 1 < lb g b c
          · rw [if_pos a]
          · rw [if_neg a]
            by_cases a : y5 + 1 < lb g b d
            · rw [if_pos a]; omega
            · rw [if_neg a]; omega
        repeat (first | (with_reducible refine Rt.gd ?_ ?_; focus (first | omega | assumption | ((repeat' refine And.intro ?_ ?_) <;> first | omega | assumption) | fail)) | (with_reducible refine Rt.ip ?_ ?_; focus (first | omega | assumption | ((repeat' refine And.intro ?_ ?_) <;> first | omega | assumption) | fail)) | (with_reducible refine Rt.in_ ?_ ?_; focus (first | omega | assumption | ((repeat' refine And.intro ?_ ?_) <;> first | omega | assumption) | fail)) | (rw [so_bd]; try dsimp only))
        rw [m_X13_between_b79, m_X13_between_b80]
        repeat (first | (with_reducible refine Rt.gd ?_ ?_; focus (first | omega | assumption | ((repeat' refine And.intro ?_ ?_) <;> first | omega | assumption) | fail)) | (with_reducible refine Rt.ip ?_ ?_; focus (first | omega | assumption | ((repeat' refine And.intro ?_ ?_) <;> first | omega | assumption) | fail)) | (with_reducible refine Rt.in_ ?_ ?_; focus (first | omega | assumption | ((repeat' refine And.intro ?_ ?_) <;> first | omega | assumption) | fail)) | (rw [so_bd]; try dsimp only))
        exact ih (y4 + 0) (y5 + 1) (by omega) (by omega) (by rw [hy, e1, e2]; omega) (by omega)
      · by_cases z : d ≤ cs g b y5
        · have e1 : clm (lb g b c) (lb g b d) y5 = lb g b d := by
            unfold clm
            rw [if_neg (by omega), if_neg (by omega)]
          have e2 : clm (lb g b c) (lb g b d) (y5 + 1) = lb g b d := by
            unfold clm
            rw [if_neg (by omega), if_neg (by omega)]
          repeat (first | (with_reducible refine Rt.gd ?_ ?_; focus (first | omega | assumption | ((repeat' refine And.intro ?_ ?_) <;> first | omega | assumption) | fail)) | (with_reducible refine Rt.ip ?_ ?_; focus (first | omega | assumption | ((repeat' refine And.intro ?_ ?_) <;> first | omega | assumption) | fail)) | (with_reducible refine Rt.in_ ?_ ?_; focus (first | omega | assumption | ((repeat' refine And.intro ?_ ?_) <;> first | omega | assumption) | fail)) | (rw [so_bd]; try dsimp only))
          rw [m_X13_between_b79, m_X13_between_b80]
          repeat (first | (with_reducible refine Rt.gd ?_ ?_; focus (first | omega | assumption | ((repeat' refine And.intro ?_ ?_) <;> first | omega | assumption) | fail)) | (with_reducible refine Rt.ip ?_ ?_; focus (first | omega | assumption | ((repeat' refine And.intro ?_ ?_) <;> first | omega | assumption) | fail)) | (with_reducible refine Rt.in_ ?_ ?_; focus (first | omega | assumption | ((repeat' refine And.intro ?_ ?_) <;> first | omega | assumption) | fail)) | (rw [so_bd]; try dsimp only))
          exact ih (y4 + 0) (y5 + 1) (by omega) (by omega) (by rw [hy, e1, e2]; omega) (by omega)
        · have e1 : clm (lb g b c) (lb g b d) y5 = y5 := by
            unfold clm
            rw [if_neg (by omega), if_pos (by omega)]
          have e2 : clm (lb g b c) (lb g b d) (y5 + 1) = y5 + 1 := by
            unfold clm
            rw [if_neg (by omega)]
            by_cases a : y5 + 1 < lb g b d
            · rw [if_pos a]
            · rw [if_neg a]; omega
          rcases (by omega : w = 0 ∨ w = 1 ∨ w = 2) with rfl | rfl | rfl
          · have es : bwW g b 0 (y5 + 1) = bwW g b 0 y5 + cg g b y5 := cG_s h0
            repeat (first | (with_reducible refine Rt.gd ?_ ?_; focus (first | omega | assumption | ((repeat' refine And.intro ?_ ?_) <;> first | omega | assumption) | fail)) | (with_reducible refine Rt.ip ?_ ?_; focus (first | omega | assumption | ((repeat' refine And.intro ?_ ?_) <;> first | omega | assumption) | fail)) | (with_reducible refine Rt.in_ ?_ ?_; focus (first | omega | assumption | ((repeat' refine And.intro ?_ ?_) <;> first | omega | assumption) | fail)) | (rw [so_bd]; try dsimp only))
            rw [m_X13_between_b80]
            repeat (first | (with_reducible refine Rt.gd ?_ ?_; focus (first | omega | assumption | ((repeat' refine And.intro ?_ ?_) <;> first | omega | assumption) | fail)) | (with_reducible refine Rt.ip ?_ ?_; focus (first | omega | assumption | ((repeat' refine And.intro ?_ ?_) <;> first | omega | assumption) | fail)) | (with_reducible refine Rt.in_ ?_ ?_; focus (first | omega | assumption | ((repeat' refine And.intro ?_ ?_) <;> first | omega | assumption) | fail)) | (rw [so_bd]; try dsimp only))
            exact ih (y4 + go y5) (y5 + 1) (by omega) (by omega) (by rw [hy, e1, e2, a2]; omega) (by omega)
          · have es : bwW g b 1 (y5 + 1) = bwW g b 1 y5 + cb g b y5 := cB_s h0
            repeat (first | (with_reducible refine Rt.gd ?_ ?_; focus (first | omega | assumption | ((repeat' refine And.intro ?_ ?_) <;> first | omega | assumption) | fail)) | (with_reducible refine Rt.ip ?_ ?_; focus (first | omega | assumption | ((repeat' refine And.intro ?_ ?_) <;> first | omega | assumption) | fail)) | (with_reducible refine Rt.in_ ?_ ?_; focus (first | omega | assumption | ((repeat' refine And.intro ?_ ?_) <;> first | omega | assumption) | fail)) | (rw [so_bd]; try dsimp only))
            rw [m_X13_between_b80]
            repeat (first | (with_reducible refine Rt.gd ?_ ?_; focus (first | omega | assumption | ((repeat' refine And.intro ?_ ?_) <;> first | omega | assumption) | fail)) | (with_reducible refine Rt.ip ?_ ?_; focus (first | omega | assumption | ((repeat' refine And.intro ?_ ?_) <;> first | omega | assumption) | fail)) | (with_reducible refine Rt.in_ ?_ ?_; focus (first | omega | assumption | ((repeat' refine And.intro ?_ ?_) <;> first | omega | assumption) | fail)) | (rw [so_bd]; try dsimp only))
            exact ih (y4 + ba y5) (y5 + 1) (by omega) (by omega) (by rw [hy, e1, e2, a3]; omega) (by omega)
          · have es : bwW g b 2 (y5 + 1) = bwW g b 2 y5 + 1 := rfl
            repeat (first | (with_reducible refine Rt.gd ?_ ?_; focus (first | omega | assumption | ((repeat' refine And.intro ?_ ?_) <;> first | omega | assumption) | fail)) | (with_reducible refine Rt.ip ?_ ?_; focus (first | omega | assumption | ((repeat' refine And.intro ?_ ?_) <;> first | omega | assumption) | fail)) | (with_reducible refine Rt.in_ ?_ ?_; focus (first | omega | assumption | ((repeat' refine And.intro ?_ ?_) <;> first | omega | assumption) | fail)) | (rw [so_bd]; try dsimp only))
            exact ih (y4 + 1) (y5 + 1) (by omega) (by omega) (by rw [hy, e1, e2]; omega) (by omega)
theorem opens_b4_ok {op : Int → Int} : ∀ (f : Nat) (y1 y2 : Int), 0 ≤ y2 → y2 ≤ 1000 → y1 = sI op y2 → (1000 - y2).toNat < f → m_X6_opens_b4 N op f y1 y2 = some (sI op 1000) := by
  intro f
  induction f with
  | zero => intro y1 y2 _ _ _ h; omega
  | succ f ih =>
    intro y1 y2 h0 h1 hy hf
    rw [m_X6_opens_b4]
    by_cases c : 1000 ≤ y2
    · repeat (first | (with_reducible refine gd_ok ?_ ?_; focus (first | omega | assumption | ((repeat' refine And.intro ?_ ?_) <;> first | omega | assumption) | fail)) | (with_reducible refine ip_ok ?_ ?_; focus (first | omega | assumption | ((repeat' refine And.intro ?_ ?_) <;> first | omega | assumption) | fail)) | (with_reducible refine in_ok ?_ ?_; focus (first | omega | assumption | ((repeat' refine And.intro ?_ ?_) <;> first | omega | assumption) | fail)) | (rw [so_bd]; try dsimp only))
      rw [hy, show y2 = 1000 by omega]
    · repeat (first | (with_reducible refine gd_ok ?_ ?_; focus (first | omega | assumption | ((repeat' refine And.intro ?_ ?_) <;> first | omega | assumption) | fail)) | (with_reducible refine ip_ok ?_ ?_; focus (first | omega | assumption | ((repeat' refine And.intro ?_ ?_) <;> first | omega | assumption) | fail)) | (with_reducible refine in_ok ?_ ?_; focus (first | omega | assumption | ((repeat' refine And.intro ?_ ?_) <;> first | omega | assumption) | fail)) | (rw [so_bd]; try dsimp only))
      exact ih _ (y2 + 1) (by omega) (by omega) (by rw [hy, sI_s _ h0]) (by omega)
theorem opens_ok (hN : 40000 ≤ N) {op : Int → Int} : m_X6_opens N op = some (sI op 1000) := opens_b4_ok N 0 0 (by decide) (by decide) rfl (by omega)
end
section
variable {N : Nat} {g b stt : Int → Int} {le mo sp run run' : Int} {sd rz pz bz : Int} {rsc rgo rba rgA rbA ple pgr pgo pba pri ble bgr bgo bba bri : Int → Int} {rsc' rgo' rba' rgA' rbA' ple' pgr' pgo' pba' pri' ble' bgr' bgo' bba' bri' : Int → Int} {z1 z2 : Int} {s1 s2 s3 s4 : Int → Int}
theorem q_inversions (hN : 40000 ≤ N) (ok : okP g b) (hle : 0 ≤ le ∧ le ≤ 9999) (hmo : 1 ≤ mo ∧ mo ≤ 60) (hset : m_X12_settle N le mo g b sp sd rz rsc rgo rba rgA rbA pz ple pgr pgo pba pri bz ble bgr bgo bba bri run = some (1, cn g b, rsc', rgo', rba', rgA', rbA', pmm g b, ple', pgr', pgo', pba', pri', bmm g b le mo, ble', bgr', bgo', bba', bri', run')) (hS : Stl g b le mo rsc' rgo' rba' rgA' rbA' ple' pgr' pgo' pba' pri' ble' bgr' bgo' bba' bri') (hst : StA stt g b) (h3 : stt 3201 = le ∧ stt 3202 = mo) : Ans (m_X12_inversions N le mo g b sp sd rz rsc rgo rba rgA rbA pz ple pgr pgo pba pri bz ble bgr bgo bba bri run) (m_X13_inversions N stt z1 s1 s2 s3) (1, cn g b, rsc', rgo', rba', rgA', rbA', pmm g b, ple', pgr', pgo', pba', pri', bmm g b le mo, ble', bgr', bgo', bba', bri', run') (sd, rz, rsc, rgo, rba, rgA, rbA, pz, ple, pgr, pgo, pba, pri, bz, ble, bgr, bgo, bba, bri, run) := by
  obtain ⟨sc1, go1, ba1, lr1, hr⟩ := laysRows_ok (z := z1) (sc := s1) (go := s2) (ba := s3) hN ok hst
  obtain ⟨hn, hbm, hpm⟩ := le_mo ok hle hmo
  obtain ⟨S1, S2, S3, S4⟩ := hS
  rw [m_X12_inversions, m_X13_inversions]
  refine ⟨ivC g b (cn g b), Or.inl ?_, ?_⟩
  · refine bd_ok (hset) ?_
    dsimp only
    exact cI_b8 hN ok S1 rfl N 0 1 (by decide) (by omega) (by
      by_cases n0 : cn g b = 0
      · exact Or.inr ⟨n0, rfl⟩
      · exact Or.inl rfl) (by omega)
  · refine Rt.bd (lr1) ?_
    dsimp only
    exact rI_iv8 hN ok hr N 0 0 (Int.le_refl 0) hn.1 rfl (by omega)
set_option maxHeartbeats 8000000 in
theorem q_between (hN : 40000 ≤ N) (ok : okP g b) (hle : 0 ≤ le ∧ le ≤ 9999) (hmo : 1 ≤ mo ∧ mo ≤ 60) (hset : m_X12_settle N le mo g b sp sd rz rsc rgo rba rgA rbA pz ple pgr pgo pba pri bz ble bgr bgo bba bri run = some (1, cn g b, rsc', rgo', rba', rgA', rbA', pmm g b, ple', pgr', pgo', pba', pri', bmm g b le mo, ble', bgr', bgo', bba', bri', run')) (hS : Stl g b le mo rsc' rgo' rba' rgA' rbA' ple' pgr' pgo' pba' pri' ble' bgr' bgo' bba' bri') (hst : StA stt g b) (h3 : stt 3201 = le ∧ stt 3202 = mo) {x1 x2 x3 : Int} (hx1 : rI x1) (hx2 : rI x2) (hx3 : rI x3) : Ans (m_X12_between N le mo g b sp sd rz rsc rgo rba rgA rbA pz ple pgr pgo pba pri bz ble bgr bgo bba bri run x1 x2 x3) (m_X13_between N stt z1 s1 s2 s3 x1 x2 x3) (1, cn g b, rsc', rgo', rba', rgA', rbA', pmm g b, ple', pgr', pgo', pba', pri', bmm g b le mo, ble', bgr', bgo', bba', bri', run') (sd, rz, rsc, rgo, rba, rgA, rbA, pz, ple, pgr, pgo, pba, pri, bz, ble, bgr, bgo, bba, bri, run) := by
  obtain ⟨sc1, go1, ba1, lr1, hr⟩ := laysRows_ok (z := z1) (sc := s1) (go := s2) (ba := s3) hN ok hst
  obtain ⟨hn, hbm, hpm⟩ := le_mo ok hle hmo
  obtain ⟨S1, S2, S3, S4⟩ := hS
  rw [m_X12_between, m_X13_between]
  by_cases c : 0 ≤ x1 ∧ x1 ≤ 1000
  · by_cases d : 0 ≤ x2 ∧ x2 ≤ 1000
    · by_cases e : x1 ≤ x2
      · have l1 := lb_in (g := g) (b := b) (c := x1) c.2
        have l2 := lb_in (g := g) (b := b) (c := x2) d.2
        obtain ⟨a1, a2⟩ := S2 (lb g b x1) l1.1 l1.2
        obtain ⟨a3, a4⟩ := S2 (lb g b x2) l2.1 l2.2
        by_cases w : 0 ≤ x3 ∧ x3 ≤ 2
        · have ez : clm (lb g b x1) (lb g b x2) 0 = lb g b x1 := by
            have lm := lb_mono (g := g) (b := b) e
            unfold clm
            by_cases a : 0 < lb g b x1
            · rw [if_pos a]
            · rw [if_neg a]
              by_cases a : 0 < lb g b x2
              · rw [if_pos a]; omega
              · rw [if_neg a]; omega
          refine ⟨bwW g b x3 (lb g b x2) - bwW g b x3 (lb g b x1), Or.inl ?_, ?_⟩
          · rcases (by omega : x3 = 0 ∨ x3 = 1 ∨ x3 = 2) with rfl | rfl | rfl
            · repeat (first | (with_reducible refine gd_ok ?_ ?_; focus (first | omega | assumption | ((repeat' refine And.intro ?_ ?_) <;> first | omega | assumption) | fail)) | (with_reducible refine ip_ok ?_ ?_; focus (first | omega | assumption | ((repeat' refine And.intro ?_ ?_) <;> first | omega | assumption) | fail)) | (with_reducible refine in_ok ?_ ?_; focus (first | omega | assumption | ((repeat' refine And.intro ?_ ?_) <;> first | omega | assumption) | fail)) | (rw [isCut1 c, so_bd]; try dsimp only) | (rw [isCut1 d, so_bd]; try dsimp only) | (rw [hset, so_bd]; try dsimp only) | (rw [below_ok hN ok S1 c, so_bd]; try dsimp only) | (rw [below_ok hN ok S1 d, so_bd]; try dsimp only) | (rw [so_bd]; try dsimp only))
              rw [a1, a3]
              rfl
            · repeat (first | (with_reducible refine gd_ok ?_ ?_; focus (first | omega | assumption | ((repeat' refine And.intro ?_ ?_) <;> first | omega | assumption) | fail)) | (with_reducible refine ip_ok ?_ ?_; focus (first | omega | assumption | ((repeat' refine And.intro ?_ ?_) <;> first | omega | assumption) | fail)) | (with_reducible refine in_ok ?_ ?_; focus (first | omega | assumption | ((repeat' refine And.intro ?_ ?_) <;> first | omega | assumption) | fail)) | (rw [isCut1 c, so_bd]; try dsimp only) | (rw [isCut1 d, so_bd]; try dsimp only) | (rw [hset, so_bd]; try dsimp only) | (rw [below_ok hN ok S1 c, so_bd]; try dsimp only) | (rw [below_ok hN ok S1 d, so_bd]; try dsimp only) | (rw [so_bd]; try dsimp only))
              rw [a2, a4]
              rfl
            · repeat (first | (with_reducible refine gd_ok ?_ ?_; focus (first | omega | assumption | ((repeat' refine And.intro ?_ ?_) <;> first | omega | assumption) | fail)) | (with_reducible refine ip_ok ?_ ?_; focus (first | omega | assumption | ((repeat' refine And.intro ?_ ?_) <;> first | omega | assumption) | fail)) | (with_reducible refine in_ok ?_ ?_; focus (first | omega | assumption | ((repeat' refine And.intro ?_ ?_) <;> first | omega | assumption) | fail)) | (rw [isCut1 c, so_bd]; try dsimp only) | (rw [isCut1 d, so_bd]; try dsimp only) | (rw [hset, so_bd]; try dsimp only) | (rw [below_ok hN ok S1 c, so_bd]; try dsimp only) | (rw [below_ok hN ok S1 d, so_bd]; try dsimp only) | (rw [so_bd]; try dsimp only))
              all_goals rfl
          · repeat (first | (with_reducible refine Rt.gd ?_ ?_; focus (first | omega | assumption | ((repeat' refine And.intro ?_ ?_) <;> first | omega | assumption) | fail)) | (with_reducible refine Rt.ip ?_ ?_; focus (first | omega | assumption | ((repeat' refine And.intro ?_ ?_) <;> first | omega | assumption) | fail)) | (with_reducible refine Rt.in_ ?_ ?_; focus (first | omega | assumption | ((repeat' refine And.intro ?_ ?_) <;> first | omega | assumption) | fail)) | (rw [rCut1 c, so_bd]; try dsimp only) | (rw [rCut1 d, so_bd]; try dsimp only) | (rw [in1 (rI_L hx3) ⟨by decide, by decide⟩ ⟨by decide, by decide⟩ w, so_bd]; try dsimp only) | (rw [lr1, so_bd]; try dsimp only) | (rw [so_bd]; try dsimp only))
            exact between_b44_ok ok hr ⟨c.1, e⟩ d.2 w N 0 0 (Int.le_refl 0) hn.1 (by rw [ez]; omega) (by omega)
        · refine ⟨-2, Or.inl ?_, ?_⟩
          · repeat (first | (with_reducible refine gd_ok ?_ ?_; focus (first | omega | assumption | ((repeat' refine And.intro ?_ ?_) <;> first | omega | assumption) | fail)) | (with_reducible refine ip_ok ?_ ?_; focus (first | omega | assumption | ((repeat' refine And.intro ?_ ?_) <;> first | omega | assumption) | fail)) | (with_reducible refine in_ok ?_ ?_; focus (first | omega | assumption | ((repeat' refine And.intro ?_ ?_) <;> first | omega | assumption) | fail)) | (rw [isCut1 c, so_bd]; try dsimp only) | (rw [isCut1 d, so_bd]; try dsimp only) | (rw [hset, so_bd]; try dsimp only) | (rw [below_ok hN ok S1 c, so_bd]; try dsimp only) | (rw [below_ok hN ok S1 d, so_bd]; try dsimp only) | (rw [so_bd]; try dsimp only))
            all_goals rfl
          · repeat (first | (with_reducible refine Rt.gd ?_ ?_; focus (first | omega | assumption | ((repeat' refine And.intro ?_ ?_) <;> first | omega | assumption) | fail)) | (with_reducible refine Rt.ip ?_ ?_; focus (first | omega | assumption | ((repeat' refine And.intro ?_ ?_) <;> first | omega | assumption) | fail)) | (with_reducible refine Rt.in_ ?_ ?_; focus (first | omega | assumption | ((repeat' refine And.intro ?_ ?_) <;> first | omega | assumption) | fail)) | (rw [rCut1 c, so_bd]; try dsimp only) | (rw [rCut1 d, so_bd]; try dsimp only) | (rw [in0 (rI_L hx3) ⟨by decide, by decide⟩ ⟨by decide, by decide⟩ w, so_bd]; try dsimp only) | (rw [so_bd]; try dsimp only))
            all_goals exact Rt.so
      · refine ⟨-2, Or.inr ?_, ?_⟩
        · repeat (first | (with_reducible refine gd_ok ?_ ?_; focus (first | omega | assumption | ((repeat' refine And.intro ?_ ?_) <;> first | omega | assumption) | fail)) | (with_reducible refine ip_ok ?_ ?_; focus (first | omega | assumption | ((repeat' refine And.intro ?_ ?_) <;> first | omega | assumption) | fail)) | (with_reducible refine in_ok ?_ ?_; focus (first | omega | assumption | ((repeat' refine And.intro ?_ ?_) <;> first | omega | assumption) | fail)) | (rw [isCut1 c, so_bd]; try dsimp only) | (rw [isCut1 d, so_bd]; try dsimp only) | (rw [so_bd]; try dsimp only))
          all_goals rfl
        · repeat (first | (with_reducible refine Rt.gd ?_ ?_; focus (first | omega | assumption | ((repeat' refine And.intro ?_ ?_) <;> first | omega | assumption) | fail)) | (with_reducible refine Rt.ip ?_ ?_; focus (first | omega | assumption | ((repeat' refine And.intro ?_ ?_) <;> first | omega | assumption) | fail)) | (with_reducible refine Rt.in_ ?_ ?_; focus (first | omega | assumption | ((repeat' refine And.intro ?_ ?_) <;> first | omega | assumption) | fail)) | (rw [rCut1 c, so_bd]; try dsimp only) | (rw [rCut1 d, so_bd]; try dsimp only) | (rw [so_bd]; try dsimp only))
          all_goals exact Rt.so
    · refine ⟨-2, Or.inr ?_, ?_⟩
      · repeat (first | (with_reducible refine gd_ok ?_ ?_; focus (first | omega | assumption | ((repeat' refine And.intro ?_ ?_) <;> first | omega | assumption) | fail)) | (with_reducible refine ip_ok ?_ ?_; focus (first | omega | assumption | ((repeat' refine And.intro ?_ ?_) <;> first | omega | assumption) | fail)) | (with_reducible refine in_ok ?_ ?_; focus (first | omega | assumption | ((repeat' refine And.intro ?_ ?_) <;> first | omega | assumption) | fail)) | (rw [isCut1 c, so_bd]; try dsimp only) | (rw [isCut0 hx2 d, so_bd]; try dsimp only) | (rw [so_bd]; try dsimp only))
        all_goals rfl
      · repeat (first | (with_reducible refine Rt.gd ?_ ?_; focus (first | omega | assumption | ((repeat' refine And.intro ?_ ?_) <;> first | omega | assumption) | fail)) | (with_reducible refine Rt.ip ?_ ?_; focus (first | omega | assumption | ((repeat' refine And.intro ?_ ?_) <;> first | omega | assumption) | fail)) | (with_reducible refine Rt.in_ ?_ ?_; focus (first | omega | assumption | ((repeat' refine And.intro ?_ ?_) <;> first | omega | assumption) | fail)) | (rw [rCut1 c, so_bd]; try dsimp only) | (rw [rCut0 hx2 d, so_bd]; try dsimp only) | (rw [so_bd]; try dsimp only))
        all_goals exact Rt.so
  · refine ⟨-2, Or.inr ?_, ?_⟩
    · repeat (first | (with_reducible refine gd_ok ?_ ?_; focus (first | omega | assumption | ((repeat' refine And.intro ?_ ?_) <;> first | omega | assumption) | fail)) | (with_reducible refine ip_ok ?_ ?_; focus (first | omega | assumption | ((repeat' refine And.intro ?_ ?_) <;> first | omega | assumption) | fail)) | (with_reducible refine in_ok ?_ ?_; focus (first | omega | assumption | ((repeat' refine And.intro ?_ ?_) <;> first | omega | assumption) | fail)) | (rw [isCut0 hx1 c, so_bd]; try dsimp only) | (rw [so_bd]; try dsimp only))
      all_goals rfl
    · repeat (first | (with_reducible refine Rt.gd ?_ ?_; focus (first | omega | assumption | ((repeat' refine And.intro ?_ ?_) <;> first | omega | assumption) | fail)) | (with_reducible refine Rt.ip ?_ ?_; focus (first | omega | assumption | ((repeat' refine And.intro ?_ ?_) <;> first | omega | assumption) | fail)) | (with_reducible refine Rt.in_ ?_ ?_; focus (first | omega | assumption | ((repeat' refine And.intro ?_ ?_) <;> first | omega | assumption) | fail)) | (rw [rCut0 hx1 c, so_bd]; try dsimp only) | (rw [so_bd]; try dsimp only))
      all_goals exact Rt.so
theorem q_auc (hN : 40000 ≤ N) (ok : okP g b) (hle : 0 ≤ le ∧ le ≤ 9999) (hmo : 1 ≤ mo ∧ mo ≤ 60) (hset : m_X12_settle N le mo g b sp sd rz rsc rgo rba rgA rbA pz ple pgr pgo pba pri bz ble bgr bgo bba bri run = some (1, cn g b, rsc', rgo', rba', rgA', rbA', pmm g b, ple', pgr', pgo', pba', pri', bmm g b le mo, ble', bgr', bgo', bba', bri', run')) (hS : Stl g b le mo rsc' rgo' rba' rgA' rbA' ple' pgr' pgo' pba' pri' ble' bgr' bgo' bba' bri') (hst : StA stt g b) (h3 : stt 3201 = le ∧ stt 3202 = mo) {x1 : Int} (hx1 : rI x1) : Ans (m_X12_auc N le mo g b sp sd rz rsc rgo rba rgA rbA pz ple pgr pgo pba pri bz ble bgr bgo bba bri run x1) (m_X13_auc N stt z1 s1 s2 s3 x1) (1, cn g b, rsc', rgo', rba', rgA', rbA', pmm g b, ple', pgr', pgo', pba', pri', bmm g b le mo, ble', bgr', bgo', bba', bri', run') (sd, rz, rsc, rgo, rba, rgA, rbA, pz, ple, pgr, pgo, pba, pri, bz, ble, bgr, bgo, bba, bri, run) := by
  obtain ⟨sc1, go1, ba1, lr1, hr⟩ := laysRows_ok (z := z1) (sc := s1) (go := s2) (ba := s3) hN ok hst
  obtain ⟨hn, hbm, hpm⟩ := le_mo ok hle hmo
  obtain ⟨S1, S2, S3, S4⟩ := hS
  have cb := cG_b ok hn.1 (Int.le_refl _)
  rw [m_X12_auc, m_X13_auc]
  by_cases c : 0 ≤ x1 ∧ x1 ≤ 1
  · by_cases d : 0 < cG g b (cn g b) ∧ 0 < cB g b (cn g b)
    · have m := mul_bd (a := 2 * cG g b (cn g b)) (b := cB g b (cn g b)) (A := 23760) (B := 11880) (by omega) (by omega)
      have mp : 0 < 2 * cG g b (cn g b) * cB g b (cn g b) := Int.mul_pos (by omega) d.2
      have hv := hv_b ok hn.1 (Int.le_refl _)
      have t1 := told_ok hN (a := hvs g b (cn g b)) (b := 2 * cG g b (cn g b) * cB g b (cn g b)) (w := x1) (by omega) (by omega) hx1
      have t2 := lowest_ok hN (a := hvs g b (cn g b)) (b := 2 * cG g b (cn g b) * cB g b (cn g b)) (w := x1) (by omega) (by omega) hx1
      have e1 : m_X8_halvesInOrder N (cn g b) rgo' rba' rbA' = some (hvs g b (cn g b)) := halves_b4_ok ok S1 S2 N 0 0 (Int.le_refl 0) hn.1 rfl (by omega)
      refine ⟨if x1 = 0 then hvs g b (cn g b) / (Int.gcd (hvs g b (cn g b)) (2 * cG g b (cn g b) * cB g b (cn g b)) : Int) else 2 * cG g b (cn g b) * cB g b (cn g b) / (Int.gcd (hvs g b (cn g b)) (2 * cG g b (cn g b) * cB g b (cn g b)) : Int), Or.inl ?_, ?_⟩
      · repeat (first | (with_reducible refine gd_ok ?_ ?_; focus (first | omega | assumption | ((repeat' refine And.intro ?_ ?_) <;> first | omega | assumption) | fail)) | (with_reducible refine ip_ok ?_ ?_; focus (first | omega | assumption | ((repeat' refine And.intro ?_ ?_) <;> first | omega | assumption) | fail)) | (with_reducible refine in_ok ?_ ?_; focus (first | omega | assumption | ((repeat' refine And.intro ?_ ?_) <;> first | omega | assumption) | fail)) | (rw [hset, so_bd]; try dsimp only) | (rw [hasBoth1 ok S2 d.1 d.2, so_bd]; try dsimp only) | (rw [e1, so_bd]; try dsimp only) | (rw [goods_ok ok S2, so_bd]; try dsimp only) | (rw [bads_ok ok S2, so_bd]; try dsimp only) | (rw [t2, so_bd]; try dsimp only) | (rw [so_bd]; try dsimp only))
        all_goals rfl
      · repeat (first | (with_reducible refine Rt.gd ?_ ?_; focus (first | omega | assumption | ((repeat' refine And.intro ?_ ?_) <;> first | omega | assumption) | fail)) | (with_reducible refine Rt.ip ?_ ?_; focus (first | omega | assumption | ((repeat' refine And.intro ?_ ?_) <;> first | omega | assumption) | fail)) | (with_reducible refine Rt.in_ ?_ ?_; focus (first | omega | assumption | ((repeat' refine And.intro ?_ ?_) <;> first | omega | assumption) | fail)) | (rw [lr1, so_bd]; try dsimp only) | (rw [in1 (rI_L hx1) ⟨by decide, by decide⟩ ⟨by decide, by decide⟩ c, so_bd]; try dsimp only) | (rw [areBoth1 hN ok hr d.1 d.2, so_bd]; try dsimp only) | (rw [so_bd]; try dsimp only))
        exact auc_b30_ok hN ok hr t1 N 0 0 (Int.le_refl 0) hn.1 rfl (by omega)
    · refine ⟨-9223372036854775808, Or.inl ?_, ?_⟩
      · repeat (first | (with_reducible refine gd_ok ?_ ?_; focus (first | omega | assumption | ((repeat' refine And.intro ?_ ?_) <;> first | omega | assumption) | fail)) | (with_reducible refine ip_ok ?_ ?_; focus (first | omega | assumption | ((repeat' refine And.intro ?_ ?_) <;> first | omega | assumption) | fail)) | (with_reducible refine in_ok ?_ ?_; focus (first | omega | assumption | ((repeat' refine And.intro ?_ ?_) <;> first | omega | assumption) | fail)) | (rw [hset, so_bd]; try dsimp only) | (rw [hasBoth0 ok S2 d, so_bd]; try dsimp only) | (rw [so_bd]; try dsimp only))
        all_goals rfl
      · repeat (first | (with_reducible refine Rt.gd ?_ ?_; focus (first | omega | assumption | ((repeat' refine And.intro ?_ ?_) <;> first | omega | assumption) | fail)) | (with_reducible refine Rt.ip ?_ ?_; focus (first | omega | assumption | ((repeat' refine And.intro ?_ ?_) <;> first | omega | assumption) | fail)) | (with_reducible refine Rt.in_ ?_ ?_; focus (first | omega | assumption | ((repeat' refine And.intro ?_ ?_) <;> first | omega | assumption) | fail)) | (rw [lr1, so_bd]; try dsimp only) | (rw [in1 (rI_L hx1) ⟨by decide, by decide⟩ ⟨by decide, by decide⟩ c, so_bd]; try dsimp only) | (rw [areBoth0 hN ok hr d, so_bd]; try dsimp only) | (rw [so_bd]; try dsimp only))
        all_goals exact Rt.so
  · refine ⟨-9223372036854775808, Or.inl ?_, ?_⟩
    · by_cases d : 0 < cG g b (cn g b) ∧ 0 < cB g b (cn g b)
      · by_cases e : x1 < 0
        · repeat (first | (with_reducible refine gd_ok ?_ ?_; focus (first | omega | assumption | ((repeat' refine And.intro ?_ ?_) <;> first | omega | assumption) | fail)) | (with_reducible refine ip_ok ?_ ?_; focus (first | omega | assumption | ((repeat' refine And.intro ?_ ?_) <;> first | omega | assumption) | fail)) | (with_reducible refine in_ok ?_ ?_; focus (first | omega | assumption | ((repeat' refine And.intro ?_ ?_) <;> first | omega | assumption) | fail)) | (rw [hset, so_bd]; try dsimp only) | (rw [hasBoth1 ok S2 d.1 d.2, so_bd]; try dsimp only) | (rw [so_bd]; try dsimp only))
          all_goals rfl
        · repeat (first | (with_reducible refine gd_ok ?_ ?_; focus (first | omega | assumption | ((repeat' refine And.intro ?_ ?_) <;> first | omega | assumption) | fail)) | (with_reducible refine ip_ok ?_ ?_; focus (first | omega | assumption | ((repeat' refine And.intro ?_ ?_) <;> first | omega | assumption) | fail)) | (with_reducible refine in_ok ?_ ?_; focus (first | omega | assumption | ((repeat' refine And.intro ?_ ?_) <;> first | omega | assumption) | fail)) | (rw [hset, so_bd]; try dsimp only) | (rw [hasBoth1 ok S2 d.1 d.2, so_bd]; try dsimp only) | (rw [so_bd]; try dsimp only))
          all_goals rfl
      · repeat (first | (with_reducible refine gd_ok ?_ ?_; focus (first | omega | assumption | ((repeat' refine And.intro ?_ ?_) <;> first | omega | assumption) | fail)) | (with_reducible refine ip_ok ?_ ?_; focus (first | omega | assumption | ((repeat' refine And.intro ?_ ?_) <;> first | omega | assumption) | fail)) | (with_reducible refine in_ok ?_ ?_; focus (first | omega | assumption | ((repeat' refine And.intro ?_ ?_) <;> first | omega | assumption) | fail)) | (rw [hset, so_bd]; try dsimp only) | (rw [hasBoth0 ok S2 d, so_bd]; try dsimp only) | (rw [so_bd]; try dsimp only))
        all_goals rfl
    · repeat (first | (with_reducible refine Rt.gd ?_ ?_; focus (first | omega | assumption | ((repeat' refine And.intro ?_ ?_) <;> first | omega | assumption) | fail)) | (with_reducible refine Rt.ip ?_ ?_; focus (first | omega | assumption | ((repeat' refine And.intro ?_ ?_) <;> first | omega | assumption) | fail)) | (with_reducible refine Rt.in_ ?_ ?_; focus (first | omega | assumption | ((repeat' refine And.intro ?_ ?_) <;> first | omega | assumption) | fail)) | (rw [lr1, so_bd]; try dsimp only) | (rw [in0 (rI_L hx1) ⟨by decide, by decide⟩ ⟨by decide, by decide⟩ c, so_bd]; try dsimp only) | (rw [so_bd]; try dsimp only))
      all_goals exact Rt.so
end
