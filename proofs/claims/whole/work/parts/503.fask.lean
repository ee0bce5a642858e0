/-! what is answered in doubles: joint, error, mean -/
def qd (x y : Int) : UInt64 := FP.ddiv (FP.l2d (kL x)) (FP.l2d (kL y))
theorem qd_g {x y : Int} (hx : 0 ≤ x) (hy : 1 ≤ y) (rx : rL x) (ry : rL y) : gD 958 1089 (qd x y) := quo_gD hx hy rx ry
theorem qd_z {x y : Int} (hx : 0 ≤ x) (hy : 1 ≤ y) (rx : rL x) (ry : rL y) : gZ (qd x y) := (qd_g hx hy rx ry).z (by decide) (by decide)
theorem quo_ok {N : Nat} {x y : Int} (hx : 0 ≤ x) (hy : 1 ≤ y) (rx : rL x) (ry : rL y) : m_X5_quotient N x y = some (qd x y) := by
  rw [m_X5_quotient]
  refine gd_ok ry (in_ok (by omega) (gd_ok ?_ rfl))
  exact (qd_z hx hy rx ry).nn
section
variable {N : Nat} {g b stt : Int → Int} {le mo sp run run' : Int} {sd rz pz bz : Int} {rsc rgo rba rgA rbA ple pgr pgo pba pri ble bgr bgo bba bri : Int → Int} {rsc' rgo' rba' rgA' rbA' ple' pgr' pgo' pba' pri' ble' bgr' bgo' bba' bri' : Int → Int} {z1 z2 : Int} {s1 s2 s3 s4 : Int → Int}
theorem q_joint (hN : 40000 ≤ N) (ok : okP g b) (hle : 0 ≤ le ∧ le ≤ 9999) (hmo : 1 ≤ mo ∧ mo ≤ 60) (hset : m_X12_settle N le mo g b sp sd rz rsc rgo rba rgA rbA pz ple pgr pgo pba pri bz ble bgr bgo bba bri run = some (1, cn g b, rsc', rgo', rba', rgA', rbA', pmm g b, ple', pgr', pgo', pba', pri', bmm g b le mo, ble', bgr', bgo', bba', bri', run')) (hS : Stl g b le mo rsc' rgo' rba' rgA' rbA' ple' pgr' pgo' pba' pri' ble' bgr' bgo' bba' bri') (hst : StA stt g b) (h3 : stt 3201 = le ∧ stt 3202 = mo) {x1 : Int} (hx1 : rI x1) : Ans (m_X12_joint N le mo g b sp sd rz rsc rgo rba rgA rbA pz ple pgr pgo pba pri bz ble bgr bgo bba bri run x1) (m_X13_joint N stt z1 z2 s1 s2 s3 s4 x1) (1, cn g b, rsc', rgo', rba', rgA', rbA', pmm g b, ple', pgr', pgo', pba', pri', bmm g b le mo, ble', bgr', bgo', bba', bri', run') (sd, rz, rsc, rgo, rba, rgA, rbA, pz, ple, pgr, pgo, pba, pri, bz, ble, bgr, bgo, bba, bri, run) := by
  obtain ⟨sc1, go1, ba1, ar1, lb1, hr, hsa, hb⟩ := laysB (z1 := z1) (z2 := z2) (s1 := s1) (s2 := s2) (s3 := s3) (s4 := s4) hN ok hle hmo hst h3
  obtain ⟨hn, hbm, hpm⟩ := le_mo ok hle hmo
  obtain ⟨S1, S2, S3, S4⟩ := hS
  rw [m_X12_joint, m_X13_joint]
  by_cases c : 0 ≤ x1 ∧ x1 + 1 < bmm g b le mo
  · have a1 := gwA_in ok hb c.1 c.2
    have a2 := gwB_in ok hb c.1 c.2
    have gz := qd_z (x := gwA (cG g b) (cB g b) (bst g b le mo) x1) (y := gwB (cG g b) (cB g b) (bst g b le mo) x1) a1.1 (by omega) ⟨by omega, by omega⟩ ⟨by omega, by omega⟩
    have hq := quo_ok (N := N) (x := gwA (cG g b) (cB g b) (bst g b le mo) x1) (y := gwB (cG g b) (cB g b) (bst g b le mo) x1) a1.1 (by omega) ⟨by omega, by omega⟩ ⟨by omega, by omega⟩
    refine ⟨dB (qd (gwA (cG g b) (cB g b) (bst g b le mo) x1) (gwB (cG g b) (cB g b) (bst g b le mo) x1)), Or.inl ?_, ?_⟩
    · refine bd_ok (hset) ?_
      dsimp only
      refine bd_ok (has1 hx1 ⟨by omega, by omega⟩ (by omega)) ?_
      refine gd_ok (by first | omega | (constructor <;> omega) | assumption) ?_
      refine in_ok (by first | omega | (constructor <;> omega) | assumption) ?_
      refine gd_ok (by first | omega | (constructor <;> omega) | assumption) ?_
      refine gd_ok (by first | omega | (constructor <;> omega) | assumption) ?_
      refine ip_ok (by first | omega | (constructor <;> omega) | assumption) ?_
      refine bd_ok (growthAbove_ok ok hb S4 c.1 c.2) ?_
      refine bd_ok (growthBelow_ok ok hb S4 c.1 c.2) ?_
      refine bd_ok (hq) ?_
      refine bd_ok (db_ok hN gz) ?_
      rfl
    · refine Rt.bd (lb1) ?_
      dsimp only
      refine Rt.gd (by first | omega | (constructor <;> omega) | assumption) ?_
      refine Rt.gd (by first | omega | (constructor <;> omega) | assumption) ?_
      refine Rt.bd (in1 (rI_L hx1) ⟨by decide, by decide⟩ ⟨by omega, by omega⟩ ⟨c.1, by omega⟩) ?_
      refine Rt.gd (by first | omega | (constructor <;> omega) | assumption) ?_
      refine Rt.in_ (by first | omega | (constructor <;> omega) | assumption) ?_
      refine Rt.bd (grownAbove_ok hN ok hr hb hsa c.1 c.2) ?_
      refine Rt.bd (grownBelow_ok hN ok hr hb hsa c.1 c.2) ?_
      refine Rt.gd gz.nn ?_
      refine Rt.bd (rb_ok gz) ?_
      exact Rt.so
  · refine ⟨-9223372036854775808, Or.inl ?_, ?_⟩
    · by_cases d : 0 ≤ x1 ∧ x1 < bmm g b le mo
      · refine bd_ok (hset) ?_
        dsimp only
        refine bd_ok (has1 hx1 ⟨by omega, by omega⟩ d) ?_
        refine gd_ok (by first | omega | (constructor <;> omega) | assumption) ?_
        refine in_ok (by first | omega | (constructor <;> omega) | assumption) ?_
        refine gd_ok (by first | omega | (constructor <;> omega) | assumption) ?_
        refine gd_ok (by first | omega | (constructor <;> omega) | assumption) ?_
        refine in_ok (by first | omega | (constructor <;> omega) | assumption) ?_
        rfl
      · refine bd_ok (hset) ?_
        dsimp only
        refine bd_ok (has0 hx1 ⟨by omega, by omega⟩ d) ?_
        refine gd_ok (by first | omega | (constructor <;> omega) | assumption) ?_
        refine ip_ok (by first | omega | (constructor <;> omega) | assumption) ?_
        rfl
    · refine Rt.bd (lb1) ?_
      dsimp only
      refine Rt.gd (by first | omega | (constructor <;> omega) | assumption) ?_
      refine Rt.gd (by first | omega | (constructor <;> omega) | assumption) ?_
      refine Rt.bd (in0 (rI_L hx1) ⟨by decide, by decide⟩ ⟨by omega, by omega⟩ (by omega)) ?_
      refine Rt.gd (by first | omega | (constructor <;> omega) | assumption) ?_
      refine Rt.ip (by first | omega | (constructor <;> omega) | assumption) ?_
      exact Rt.so
end
/-- the sum of what the bands err -/
def er (G B st : Int → Int) : Nat → UInt64
  | 0 => FP.dconst0
  | n + 1 => FP.dadd (er G B st n) (qd (bG G st (n : Int) * bG B st (n : Int)) (bC G B st (n : Int)))
section
variable {N : Nat} {g b : Int → Int}
theorem er_q (ok : okP g b) {st : Int → Int} {m : Int} (hb : Bd (cn g b) st m) {k : Int} (k0 : 0 ≤ k) (k1 : k < m) : (0 ≤ bG (cG g b) st k * bG (cB g b) st k ∧ bG (cG g b) st k * bG (cB g b) st k ≤ 141134400) ∧ gD 958 1089 (qd (bG (cG g b) st k * bG (cB g b) st k) (bC (cG g b) (cB g b) st k)) := by
  obtain ⟨b1, b2, b3⟩ := hb.c ok k0 k1
  have m1 := mul_bd (a := bG (cG g b) st k) (b := bG (cB g b) st k) (A := 11880) (B := 11880) (by omega) (by omega)
  exact ⟨by omega, qd_g (by omega) (by omega) ⟨by omega, by omega⟩ ⟨by omega, by omega⟩⟩
theorem er_g (ok : okP g b) {st : Int → Int} {m : Int} (hb : Bd (cn g b) st m) : ∀ n : Nat, (n : Int) ≤ m → gD 958 (1089 + 2 * n) (er (cG g b) (cB g b) st n) := by
  have ok2 := ok.2.1
  have hm := hb.1
  intro n
  induction n with
  | zero => intro _; exact Or.inl dk0
  | succ n ih =>
    intro h
    have h1 := ih (by omega)
    have h2 := (er_q ok hb (k := (n : Int)) (by omega) (by omega)).2.mono (lo' := 958) (hi' := 1089 + 2 * n) (by decide) (by omega)
    have h3 := dadd_gD h1 h2 (by decide) (show 1089 + 2 * n ≤ 2047 by omega)
    exact h3.mono (Nat.le_refl _) (by omega)
theorem er_z (ok : okP g b) {st : Int → Int} {m : Int} (hb : Bd (cn g b) st m) (n : Nat) (h : (n : Int) ≤ m) : gZ (er (cG g b) (cB g b) st n) := by
  have ok2 := ok.2.1
  have hm := hb.1
  exact (er_g ok hb n h).z (by decide) (by omega)
end
section
variable {N : Nat} {g b stt : Int → Int} {le mo sp run run' : Int} {sd rz pz bz : Int} {rsc rgo rba rgA rbA ple pgr pgo pba pri ble bgr bgo bba bri : Int → Int} {rsc' rgo' rba' rgA' rbA' ple' pgr' pgo' pba' pri' ble' bgr' bgo' bba' bri' : Int → Int} {z1 z2 : Int} {s1 s2 s3 s4 : Int → Int}
theorem error_c (hN : 40000 ≤ N) (ok : okP g b) {st : Int → Int} {m : Int} (hb : Bd (cn g b) st m) (h : Lad (cs g b) (cG g b) (cB g b) st m ble bgr bgo bba bri) (hz : bz = m) : ∀ (f : Nat) (y1 : UInt64) (y3 : Int), 0 ≤ y3 → y3 ≤ m → y1 = er (cG g b) (cB g b) st y3.toNat → (m - y3).toNat < f → m_X12_error_b8 N le mo g b sp sd rz rsc rgo rba rgA rbA pz ple pgr pgo pba pri bz ble bgr bgo bba bri run f y1 y3 = some (dB (er (cG g b) (cB g b) st m.toNat), sd, rz, rsc, rgo, rba, rgA, rbA, pz, ple, pgr, pgo, pba, pri, bz, ble, bgr, bgo, bba, bri, run) := by
  have ok2 := ok.2.1
  have hm := hb.1
  intro f
  induction f with
  | zero => intro y1 y3 _ _ _ h; omega
  | succ f ih =>
    intro y1 y3 h0 h1 h2 hf
    rw [m_X12_error_b8]
    by_cases c : m ≤ y3
    · have e : y3 = m := by omega
      subst e
      rw [h2]
      refine gd_ok (by first | omega | (constructor <;> omega) | assumption) ?_
      refine gd_ok (by first | omega | (constructor <;> omega) | assumption) ?_
      refine ip_ok (by first | omega | (constructor <;> omega) | assumption) ?_
      refine bd_ok (db_ok hN (er_z ok hb _ (by omega))) ?_
      rfl
    · obtain ⟨p1, p2⟩ := er_q ok hb h0 (by omega)
      have b1 := hb.c ok h0 (by omega)
      have e1 := (h.c ok hb h0 (by omega)).2
      obtain ⟨-, -, e2, -, -⟩ := h y3 h0 (by omega)
      have eq := quo_ok (N := N) (x := bG (cG g b) st y3 * bG (cB g b) st y3) (y := bC (cG g b) (cB g b) st y3) p1.1 (by omega) ⟨by omega, by omega⟩ ⟨by omega, by omega⟩
      have e3 : er (cG g b) (cB g b) st (y3 + 1).toNat = FP.dadd y1 (qd (bG (cG g b) st y3 * bG (cB g b) st y3) (bC (cG g b) (cB g b) st y3)) := by
        rw [show (y3 + 1).toNat = y3.toNat + 1 by omega, er, h2, show ((y3.toNat : Nat) : Int) = y3 by omega]
      rw [e2, e1]
      refine gd_ok (by first | omega | (constructor <;> omega) | assumption) ?_
      refine gd_ok (by first | omega | (constructor <;> omega) | assumption) ?_
      refine in_ok (by first | omega | (constructor <;> omega) | assumption) ?_
      refine gd_ok (by first | omega | (constructor <;> omega) | assumption) ?_
      refine gd_ok (by first | omega | (constructor <;> omega) | assumption) ?_
      refine gd_ok (by first | omega | (constructor <;> omega) | assumption) ?_
      refine bd_ok (casesC ok hb h h0 (by omega)) ?_
      refine gd_ok (by first | omega | (constructor <;> omega) | assumption) ?_
      refine bd_ok (eq) ?_
      refine gd_ok ?_ ?_
      · rw [← e3]; exact (er_z ok hb _ (by omega)).nn
      · exact ih _ (y3 + 1) (by omega) (by omega) e3.symm (by omega)
theorem error_r (hN : 40000 ≤ N) (ok : okP g b) {sc go ba st' st : Int → Int} {m : Int} (hr : RwA g b sc go ba) (hb : Bd (cn g b) st m) (hs : SA st' st m) : ∀ (f : Nat) (y1 : UInt64) (y3 : Int), 0 ≤ y3 → y3 ≤ m → y1 = er (cG g b) (cB g b) st y3.toNat → (m - y3).toNat < f → Rt (m_X13_error_b8 N stt z1 m sc go ba st' f y1 y3) (dB (er (cG g b) (cB g b) st m.toNat)) := by
  have ok2 := ok.2.1
  have hm := hb.1
  intro f
  induction f with
  | zero => intro y1 y3 _ _ _ h; omega
  | succ f ih =>
    intro y1 y3 h0 h1 h2 hf
    rw [m_X13_error_b8]
    by_cases c : m ≤ y3
    · have e : y3 = m := by omega
      subst e
      rw [h2]
      refine Rt.gd (by first | omega | (constructor <;> omega) | assumption) ?_
      refine Rt.gd (by first | omega | (constructor <;> omega) | assumption) ?_
      refine Rt.ip (by first | omega | (constructor <;> omega) | assumption) ?_
      refine Rt.bd (rb_ok (er_z ok hb _ (by omega))) ?_
      exact Rt.so
    · obtain ⟨p1, p2⟩ := er_q ok hb h0 (by omega)
      have e3 : er (cG g b) (cB g b) st (y3 + 1).toNat = FP.dadd y1 (qd (bG (cG g b) st y3 * bG (cB g b) st y3) (bC (cG g b) (cB g b) st y3)) := by
        rw [show (y3 + 1).toNat = y3.toNat + 1 by omega, er, h2, show ((y3.toNat : Nat) : Int) = y3 by omega]
      refine Rt.gd (by first | omega | (constructor <;> omega) | assumption) ?_
      refine Rt.gd (by first | omega | (constructor <;> omega) | assumption) ?_
      refine Rt.in_ (by first | omega | (constructor <;> omega) | assumption) ?_
      refine Rt.bd (ofBand0 hN ok hr hb hs h0 (by omega)) ?_
      refine Rt.bd (ofBand1 hN ok hr hb hs h0 (by omega)) ?_
      refine Rt.bd (ofBand2 hN ok hr hb hs h0 (by omega)) ?_
      refine Rt.gd (p2.z (by decide) (by decide)).nn (Rt.gd ?_ ?_)
      · show n64 (FP.dadd y1 (qd (bG (cG g b) st y3 * bG (cB g b) st y3) (bC (cG g b) (cB g b) st y3)))
        rw [← e3]; exact (er_z ok hb _ (by omega)).nn
      · exact ih _ (y3 + 1) (by omega) (by omega) e3.symm (by omega)
theorem q_error (hN : 40000 ≤ N) (ok : okP g b) (hle : 0 ≤ le ∧ le ≤ 9999) (hmo : 1 ≤ mo ∧ mo ≤ 60) (hset : m_X12_settle N le mo g b sp sd rz rsc rgo rba rgA rbA pz ple pgr pgo pba pri bz ble bgr bgo bba bri run = some (1, cn g b, rsc', rgo', rba', rgA', rbA', pmm g b, ple', pgr', pgo', pba', pri', bmm g b le mo, ble', bgr', bgo', bba', bri', run')) (hS : Stl g b le mo rsc' rgo' rba' rgA' rbA' ple' pgr' pgo' pba' pri' ble' bgr' bgo' bba' bri') (hst : StA stt g b) (h3 : stt 3201 = le ∧ stt 3202 = mo) : Ans (m_X12_error N le mo g b sp sd rz rsc rgo rba rgA rbA pz ple pgr pgo pba pri bz ble bgr bgo bba bri run) (m_X13_error N stt z1 z2 s1 s2 s3 s4) (1, cn g b, rsc', rgo', rba', rgA', rbA', pmm g b, ple', pgr', pgo', pba', pri', bmm g b le mo, ble', bgr', bgo', bba', bri', run') (sd, rz, rsc, rgo, rba, rgA, rbA, pz, ple, pgr, pgo, pba, pri, bz, ble, bgr, bgo, bba, bri, run) := by
  obtain ⟨sc1, go1, ba1, ar1, lb1, hr, hsa, hb⟩ := laysB (z1 := z1) (z2 := z2) (s1 := s1) (s2 := s2) (s3 := s3) (s4 := s4) hN ok hle hmo hst h3
  obtain ⟨hn, hbm, hpm⟩ := le_mo ok hle hmo
  obtain ⟨S1, S2, S3, S4⟩ := hS
  rw [m_X12_error, m_X13_error]
  refine ⟨dB (er (cG g b) (cB g b) (bst g b le mo) (bmm g b le mo).toNat), Or.inl ?_, ?_⟩
  · refine bd_ok (hset) ?_
    dsimp only
    exact error_c hN ok hb S4 rfl N FP.dconst0 0 (by decide) (by omega) rfl (by omega)
  · refine Rt.bd (lb1) ?_
    dsimp only
    exact error_r hN ok hr hb hsa N FP.dconst0 0 (by decide) (by omega) rfl (by omega)
end

section
variable {N : Nat} {g b : Int → Int}
/-- scores together, over rows -/
theorem together_b5 (ok : okP g b) {sc go ba : Int → Int} (hr : RwA g b sc go ba) {x1 x2 : Int} (hx1 : 0 ≤ x1 ∧ x1 ≤ 1) (hx2 : 0 ≤ x2 ∧ x2 ≤ 1) {F : Int → Int} (hF : ∀ i, 0 ≤ i → i < cn g b → F i = x1 * cg g b i + x2 * cb g b i) : ∀ (f : Nat) (y3 y5 : Int), 0 ≤ y5 → y5 ≤ cn g b → y3 = sI (fun i => cs g b i * F i) y5 → (cn g b - y5).toNat < f → m_X8_scoresTogether_b5 N (cn g b) sc go ba x1 x2 f y3 y5 = some (sI (fun i => cs g b i * F i) (cn g b)) := by
  have ok2 := ok.2.1
  intro f
  induction f with
  | zero => intro y3 y5 _ _ _ h; omega
  | succ f ih =>
    intro y3 y5 h0 h1 h2 hf
    rw [m_X8_scoresTogether_b5]
    by_cases c : cn g b ≤ y5
    · have e : y5 = cn g b := by omega
      rw [h2, e]
      refine gd_ok (by first | omega | (constructor <;> omega) | assumption) ?_
      refine gd_ok (by first | omega | (constructor <;> omega) | assumption) ?_
      refine ip_ok (by first | omega | (constructor <;> omega) | assumption) ?_
      rfl
    · obtain ⟨e1, e2, e3⟩ := hr y5 h0 (by omega)
      have i1 := cs_in (g := g) (b := b) h0 (by omega)
      have i2 := cg_in ok h0 (i := y5) (by omega)
      have eF := hF y5 h0 (by omega)
      have r1 : 0 ≤ x1 * cg g b y5 + x2 * cb g b y5 ∧ x1 * cg g b y5 + x2 * cb g b y5 ≤ 11880 := by
        rcases (by omega : x1 = 0 ∨ x1 = 1) with rfl | rfl <;> rcases (by omega : x2 = 0 ∨ x2 = 1) with rfl | rfl <;> omega
      rw [e1, e2, e3]
      refine gd_ok (by first | omega | (constructor <;> omega) | assumption) ?_
      refine gd_ok (by first | omega | (constructor <;> omega) | assumption) ?_
      refine in_ok (by first | omega | (constructor <;> omega) | assumption) ?_
      refine gd_ok (by first | omega | (constructor <;> omega) | assumption) ?_
      refine gd_ok (by first | omega | (constructor <;> omega) | assumption) ?_
      refine gd_ok (by first | omega | (constructor <;> omega) | assumption) ?_
      refine ih _ (y5 + 1) (by omega) (by omega) ?_ (by omega)
      rw [sI_s _ h0, h2, eF]
theorem together_ok (hN : 40000 ≤ N) (ok : okP g b) {sc go ba : Int → Int} (hr : RwA g b sc go ba) {x1 x2 : Int} (hx1 : 0 ≤ x1 ∧ x1 ≤ 1) (hx2 : 0 ≤ x2 ∧ x2 ≤ 1) {F : Int → Int} (hF : ∀ i, 0 ≤ i → i < cn g b → F i = x1 * cg g b i + x2 * cb g b i) : m_X8_scoresTogether N (cn g b) sc go ba x1 x2 = some (sI (fun i => cs g b i * F i) (cn g b)) := by
  have ok2 := ok.2.1
  have n0 := cn_0 g b
  rw [m_X8_scoresTogether]
  exact together_b5 ok hr hx1 hx2 hF N 0 0 (Int.le_refl 0) n0 rfl (by omega)
theorem smTog_b4 {S : SM} {a : Nat} {p : Int → Int} {x : Int} (h : SmR S a p x) : ∀ (f : Nat) (y1 y3 : Int), 0 ≤ y3 → y3 ≤ smSize S a → y1 = sI (fun i => smScore S a i * smCases S a i) y3 → (smSize S a - y3).toNat < f → m_X9_scoresTogether_b4 N S a f y1 y3 = some (sI (fun i => smScore S a i * smCases S a i) (smSize S a)) := by
  obtain ⟨ha, hz, hi, -, -⟩ := h
  intro f
  induction f with
  | zero => intro y1 y3 _ _ _ h; omega
  | succ f ih =>
    intro y1 y3 h0 h1 h2 hf
    rw [m_X9_scoresTogether_b4]
    by_cases c : smSize S a ≤ y3
    · have e : y3 = smSize S a := by omega
      rw [h2, e]
      refine gd_ok (by first | omega | (constructor <;> omega) | assumption) ?_
      refine gd_ok (by first | omega | (constructor <;> omega) | assumption) ?_
      refine gd_ok (by first | omega | (constructor <;> omega) | assumption) ?_
      refine ip_ok (by first | omega | (constructor <;> omega) | assumption) ?_
      rfl
    · have i1 := hi y3 h0 (by omega)
      refine gd_ok (by first | omega | (constructor <;> omega) | assumption) ?_
      refine gd_ok (by first | omega | (constructor <;> omega) | assumption) ?_
      refine gd_ok (by first | omega | (constructor <;> omega) | assumption) ?_
      refine in_ok (by first | omega | (constructor <;> omega) | assumption) ?_
      refine gd_ok (by first | omega | (constructor <;> omega) | assumption) ?_
      refine gd_ok (by first | omega | (constructor <;> omega) | assumption) ?_
      refine gd_ok (by first | omega | (constructor <;> omega) | assumption) ?_
      refine ih _ (y3 + 1) (by omega) (by omega) ?_ (by omega)
      rw [sI_s _ h0, h2]
theorem smTog_ok (hN : 40000 ≤ N) {S : SM} {a : Nat} {p : Int → Int} {x : Int} (h : SmR S a p x) : m_X9_scoresTogether N S a = some (sI (fun i => smScore S a i * smCases S a i) (smSize S a)) := by
  have hz := h.2.1
  rw [m_X9_scoresTogether]
  exact smTog_b4 h N 0 0 (Int.le_refl 0) hz.1 rfl (by omega)
def mnA (x y : Int) : Int := if y = 0 then -9223372036854775808 else dB (qd x y)
theorem meanBits_ok (hN : 40000 ≤ N) {x y : Int} (hx : 0 ≤ x ∧ x ≤ 1000000000) (hy : 0 ≤ y ∧ y ≤ 11880) : m_X12_meanBits N x y = some (mnA x y) := by
  rw [m_X12_meanBits]
  by_cases c : y = 0
  · rw [show mnA x y = -9223372036854775808 from if_pos c]
    refine gd_ok (by first | omega | (constructor <;> omega) | assumption) ?_
    refine ip_ok (c) ?_
    rfl
  · rw [show mnA x y = dB (qd x y) from if_neg c]
    have gz := qd_z (x := x) (y := y) hx.1 (by omega) ⟨by omega, by omega⟩ ⟨by omega, by omega⟩
    refine gd_ok (by first | omega | (constructor <;> omega) | assumption) ?_
    refine in_ok (c) ?_
    refine bd_ok (quo_ok hx.1 (by omega) ⟨by omega, by omega⟩ ⟨by omega, by omega⟩) ?_
    refine bd_ok (db_ok hN gz) ?_
    rfl
theorem mean_r (hN : 40000 ≤ N) {stt samp F : Int → Int} {z1 : Int} {s1 s2 s3 : Int → Int} {x1 : Int} (hx1 : rI x1) {X Y : Int} (hX : X = sI (fun s => s * F s) 1000) (hY : Y = sI F 1000) (bX : 0 ≤ X ∧ X ≤ 1000000000) (bY : 0 ≤ Y ∧ Y ≤ 11880) (hF : ∀ s, 0 ≤ s → s < 1000 → (0 ≤ F s ∧ F s ≤ 11880) ∧ (x1 = 0 → stt s = F s) ∧ (x1 = 1 → stt (1000 + s) = F s) ∧ (x1 = 2 → stt s + stt (1000 + s) = F s) ∧ (x1 = 3 → samp s = F s) ∧ ((x1 < 0 ∨ 3 < x1) → F s = 0)) : ∀ (f : Nat) (y2 y4 y6 : Int), 0 ≤ y6 → y6 ≤ 1000 → y2 = sI (fun s => s * F s) y6 → y4 = sI F y6 → (1000 - y6).toNat < f → Rt (m_X13_mean_b12 N stt samp x1 z1 s1 s2 s3 f y2 y4 y6) (mnA X Y) := by
  intro f
  induction f with
  | zero => intro y2 y4 y6 _ _ _ _ h; omega
  | succ f ih =>
    intro y2 y4 y6 h0 h1 h2 h3 hf
    rw [m_X13_mean_b12]
    by_cases c : 1000 ≤ y6
    · have e : y6 = 1000 := by omega
      subst e
      rw [h2, h3, ← hX, ← hY]
      by_cases d : Y = 0
      · rw [show mnA X Y = -9223372036854775808 from if_pos d]
        refine Rt.gd (by first | omega | (constructor <;> omega) | assumption) ?_
        refine Rt.ip (by first | omega | (constructor <;> omega) | assumption) ?_
        refine Rt.gd (by first | omega | (constructor <;> omega) | assumption) ?_
        refine Rt.ip (d) ?_
        exact Rt.so
      · rw [show mnA X Y = dB (qd X Y) from if_neg d]
        have gz := qd_z (x := X) (y := Y) bX.1 (by omega) ⟨by omega, by omega⟩ ⟨by omega, by omega⟩
        refine Rt.gd (by first | omega | (constructor <;> omega) | assumption) ?_
        refine Rt.ip (by first | omega | (constructor <;> omega) | assumption) ?_
        refine Rt.gd (by first | omega | (constructor <;> omega) | assumption) ?_
        refine Rt.in_ (d) ?_
        refine Rt.gd gz.nn ?_
        refine Rt.bd (rb_ok gz) ?_
        exact Rt.so
    · obtain ⟨f0, f1, f2, f3, f4, f5⟩ := hF y6 h0 (by omega)
      have st : ∀ s0 : Int, s0 = F y6 → Rt (m_X13_mean_b104 N stt samp x1 z1 s1 s2 s3 (m_X13_mean_b12 N stt samp x1 z1 s1 s2 s3 f) y2 y4 y6 s0) (mnA X Y) := fun s0 hs => by
        rw [m_X13_mean_b104]
        refine Rt.gd ⟨by omega, by omega⟩ (ih _ _ (y6 + 1) (by omega) (by omega) ?_ ?_ (by omega))
        · rw [sI_s _ h0, h2, hs]
        · rw [sI_s _ h0, h3, hs]
      have e0 : (0 : Int) + y6 = y6 := by omega
      rw [e0]
      rcases (by omega : x1 = 0 ∨ x1 = 1 ∨ x1 = 2 ∨ x1 = 3 ∨ (x1 < 0 ∨ 3 < x1)) with rfl | rfl | rfl | rfl | d
      · have := f1 rfl
        refine Rt.gd (by first | omega | (constructor <;> omega) | assumption) ?_
        refine Rt.in_ (by first | omega | (constructor <;> omega) | assumption) ?_
        refine Rt.gd (by first | omega | (constructor <;> omega) | assumption) ?_
        refine Rt.ip (by first | omega | (constructor <;> omega) | assumption) ?_
        refine Rt.gd (by first | omega | (constructor <;> omega) | assumption) ?_
        refine Rt.gd (by first | omega | (constructor <;> omega) | assumption) ?_
        exact st _ this
      · have := f2 rfl
        refine Rt.gd (by first | omega | (constructor <;> omega) | assumption) ?_
        refine Rt.in_ (by first | omega | (constructor <;> omega) | assumption) ?_
        refine Rt.gd (by first | omega | (constructor <;> omega) | assumption) ?_
        refine Rt.in_ (by first | omega | (constructor <;> omega) | assumption) ?_
        refine Rt.ip (by first | omega | (constructor <;> omega) | assumption) ?_
        refine Rt.gd (by first | omega | (constructor <;> omega) | assumption) ?_
        refine Rt.gd (by first | omega | (constructor <;> omega) | assumption) ?_
        exact st _ this
      · have := f3 rfl
        refine Rt.gd (by first | omega | (constructor <;> omega) | assumption) ?_
        refine Rt.in_ (by first | omega | (constructor <;> omega) | assumption) ?_
        refine Rt.gd (by first | omega | (constructor <;> omega) | assumption) ?_
        refine Rt.in_ (by first | omega | (constructor <;> omega) | assumption) ?_
        refine Rt.in_ (by first | omega | (constructor <;> omega) | assumption) ?_
        refine Rt.ip (by first | omega | (constructor <;> omega) | assumption) ?_
        refine Rt.gd (by first | omega | (constructor <;> omega) | assumption) ?_
        refine Rt.gd (by first | omega | (constructor <;> omega) | assumption) ?_
        refine Rt.gd (by first | omega | (constructor <;> omega) | assumption) ?_
        exact st _ this
      · have := f4 rfl
        refine Rt.gd (by first | omega | (constructor <;> omega) | assumption) ?_
        refine Rt.in_ (by first | omega | (constructor <;> omega) | assumption) ?_
        refine Rt.gd (by first | omega | (constructor <;> omega) | assumption) ?_
        refine Rt.in_ (by first | omega | (constructor <;> omega) | assumption) ?_
        refine Rt.in_ (by first | omega | (constructor <;> omega) | assumption) ?_
        refine Rt.in_ (by first | omega | (constructor <;> omega) | assumption) ?_
        refine Rt.ip (by first | omega | (constructor <;> omega) | assumption) ?_
        refine Rt.gd (by first | omega | (constructor <;> omega) | assumption) ?_
        refine Rt.gd (by first | omega | (constructor <;> omega) | assumption) ?_
        exact st _ this
      · have := f5 d
        refine Rt.gd (by first | omega | (constructor <;> omega) | assumption) ?_
        refine Rt.in_ (by first | omega | (constructor <;> omega) | assumption) ?_
        refine Rt.gd (by first | omega | (constructor <;> omega) | assumption) ?_
        refine Rt.in_ (by first | omega | (constructor <;> omega) | assumption) ?_
        refine Rt.in_ (by first | omega | (constructor <;> omega) | assumption) ?_
        refine Rt.in_ (by first | omega | (constructor <;> omega) | assumption) ?_
        refine Rt.in_ (by first | omega | (constructor <;> omega) | assumption) ?_
        exact st _ this.symm
end

section
variable {N : Nat} {g b stt : Int → Int} {le mo sp run run' : Int} {sd rz pz bz : Int} {rsc rgo rba rgA rbA ple pgr pgo pba pri ble bgr bgo bba bri : Int → Int} {rsc' rgo' rba' rgA' rbA' ple' pgr' pgo' pba' pri' ble' bgr' bgo' bba' bri' : Int → Int} {z1 z2 : Int} {s1 s2 s3 s4 : Int → Int}
theorem mean_ans (hN : 40000 ≤ N) (ok : okP g b) {x1 : Int} {F : Int → Int} (hF : ∀ s, 0 ≤ s → s < 1000 → 0 ≤ F s ∧ F s ≤ g s + b s) : sI (fun s => s * F s) 1000 = sI (fun i => cs g b i * F (cs g b i)) (cn g b) ∧ sI F 1000 = sI (fun i => F (cs g b i)) (cn g b) ∧ (0 ≤ sI (fun i => cs g b i * F (cs g b i)) (cn g b) ∧ sI (fun i => cs g b i * F (cs g b i)) (cn g b) ≤ 1000000000) := by
  have z : ∀ s, 0 ≤ s → s < 1000 → ¬ 0 < g s + b s → F s = 0 := fun s a c d => by
    have := hF s a c
    omega
  have ok2 := ok.2.1
  have n0 := cn_0 g b
  have r1 := rows_sum (g := g) (b := b) (f := F) (W := fun s => s) z (k := 1000) (by decide) (by decide)
  have r2 := rows_sum (g := g) (b := b) (f := F) (W := fun _ => 1) z (k := 1000) (by decide) (by decide)
  have el : lb g b 1000 = cn g b := rfl
  rw [el] at r1 r2
  simp only [Int.one_mul] at r2
  refine ⟨r1, r2, ?_⟩
  have := sI_ab (K := 11880000) (f := fun i => cs g b i * F (cs g b i)) (n := cn g b) (fun i i0 i1 => by
    have c1 := cs_in (g := g) (b := b) i0 i1
    have c2 := hF (cs g b i) c1.1 c1.2.1
    have c3 := ok.1 (cs g b i) c1.1 c1.2.1
    have := mul_bd (a := cs g b i) (b := F (cs g b i)) (A := 1000) (B := 11880) (by omega) (by omega)
    show 0 ≤ cs g b i * F (cs g b i) ∧ cs g b i * F (cs g b i) ≤ 11880000
    omega) (Int.le_refl 0) (cn g b) n0 (Int.le_refl _)
  have e : sI (fun i => cs g b i * F (cs g b i)) 0 = 0 := rfl
  omega
theorem q_mean (hN : 40000 ≤ N) (ok : okP g b) (hle : 0 ≤ le ∧ le ≤ 9999) (hmo : 1 ≤ mo ∧ mo ≤ 60) (hset : m_X12_settle N le mo g b sp sd rz rsc rgo rba rgA rbA pz ple pgr pgo pba pri bz ble bgr bgo bba bri run = some (1, cn g b, rsc', rgo', rba', rgA', rbA', pmm g b, ple', pgr', pgo', pba', pri', bmm g b le mo, ble', bgr', bgo', bba', bri', run')) (hS : Stl g b le mo rsc' rgo' rba' rgA' rbA' ple' pgr' pgo' pba' pri' ble' bgr' bgo' bba' bri') (hst : StA stt g b) (h3 : stt 3201 = le ∧ stt 3202 = mo) {samp : Int → Int} {S : SM} {la : Nat} (hsm : SmR S la samp 0) {x1 : Int} (hx1 : rI x1) : Ans (m_X12_mean N S la le mo g b sp sd rz rsc rgo rba rgA rbA pz ple pgr pgo pba pri bz ble bgr bgo bba bri run x1) (m_X13_mean N stt samp z1 s1 s2 s3 x1) (1, cn g b, rsc', rgo', rba', rgA', rbA', pmm g b, ple', pgr', pgo', pba', pri', bmm g b le mo, ble', bgr', bgo', bba', bri', run') (sd, rz, rsc, rgo, rba, rgA, rbA, pz, ple, pgr, pgo, pba, pri, bz, ble, bgr, bgo, bba, bri, run) := by
  obtain ⟨sc1, go1, ba1, lr1, hr⟩ := laysRows_ok (z := z1) (sc := s1) (go := s2) (ba := s3) hN ok hst
  obtain ⟨hn, hbm, hpm⟩ := le_mo ok hle hmo
  obtain ⟨S1, S2, S3, S4⟩ := hS
  have ok2 := ok.2.1
  have okg := ok.1
  rw [m_X12_mean, m_X13_mean]
  rcases (by omega : x1 = 0 ∨ x1 = 1 ∨ x1 = 2 ∨ x1 = 3 ∨ (x1 < 0 ∨ 3 < x1)) with rfl | rfl | rfl | rfl | d
  · obtain ⟨t1, t2, t3⟩ := mean_ans hN ok (x1 := 0) (F := g) (fun s a c => by have := okg s a c; omega)
    have gb := cG_b ok (i := cn g b) hn.1 (Int.le_refl _)
    have t4 : sI g 1000 = cG g b (cn g b) := t2
    refine ⟨mnA (sI (fun i => cs g b i * g (cs g b i)) (cn g b)) (cG g b (cn g b)), Or.inl ?_, ?_⟩
    · refine bd_ok (hset) ?_
      dsimp only
      refine gd_ok (by first | omega | (constructor <;> omega) | assumption) ?_
      refine ip_ok (by first | omega | (constructor <;> omega) | assumption) ?_
      refine bd_ok (together_ok hN ok S1 (F := fun i => g (cs g b i)) (by decide) (by decide) (fun i _ _ => by show g (cs g b i) = 1 * g (cs g b i) + 0 * cb g b i; omega)) ?_
      refine bd_ok (goods_ok ok S2) ?_
      refine bd_ok (meanBits_ok hN t3 (by omega)) ?_
      rfl
    · refine Rt.bd (lr1) ?_
      dsimp only
      exact mean_r hN hx1 t1.symm t4.symm t3 (by omega) (fun s a c => by
        have := okg s a c
        exact ⟨by omega, fun _ => (hst s a c).1, fun h => by omega, fun h => by omega, fun h => by omega, fun h => by omega⟩) N 0 0 0 (Int.le_refl 0) (by decide) rfl rfl (by omega)
  · obtain ⟨t1, t2, t3⟩ := mean_ans hN ok (x1 := 0) (F := b) (fun s a c => by have := okg s a c; omega)
    have gb := cG_b ok (i := cn g b) hn.1 (Int.le_refl _)
    have t4 : sI b 1000 = cB g b (cn g b) := t2
    refine ⟨mnA (sI (fun i => cs g b i * b (cs g b i)) (cn g b)) (cB g b (cn g b)), Or.inl ?_, ?_⟩
    · refine bd_ok (hset) ?_
      dsimp only
      refine gd_ok (by first | omega | (constructor <;> omega) | assumption) ?_
      refine in_ok (by first | omega | (constructor <;> omega) | assumption) ?_
      refine ip_ok (by first | omega | (constructor <;> omega) | assumption) ?_
      refine bd_ok (together_ok hN ok S1 (F := fun i => b (cs g b i)) (by decide) (by decide) (fun i _ _ => by show b (cs g b i) = 0 * cg g b i + 1 * b (cs g b i); omega)) ?_
      refine bd_ok (bads_ok ok S2) ?_
      refine bd_ok (meanBits_ok hN t3 (by omega)) ?_
      rfl
    · refine Rt.bd (lr1) ?_
      dsimp only
      exact mean_r hN hx1 t1.symm t4.symm t3 (by omega) (fun s a c => by
        have := okg s a c
        exact ⟨by omega, fun h => by omega, fun _ => (hst s a c).2, fun h => by omega, fun h => by omega, fun h => by omega⟩) N 0 0 0 (Int.le_refl 0) (by decide) rfl rfl (by omega)
  · obtain ⟨t1, t2, t3⟩ := mean_ans hN ok (x1 := 0) (F := fun s => g s + b s) (fun s a c => by have := okg s a c; show 0 ≤ g s + b s ∧ g s + b s ≤ g s + b s; omega)
    have gb := cG_b ok (i := cn g b) hn.1 (Int.le_refl _)
    have t4 : sI (fun s => g s + b s) 1000 = cG g b (cn g b) + cB g b (cn g b) := by
      rw [t2]
      show sI (fun i => cg g b i + cb g b i) (cn g b) = _
      rw [sI_add _ _ hn.1]
      rfl
    refine ⟨mnA (sI (fun i => cs g b i * (g (cs g b i) + b (cs g b i))) (cn g b)) (cG g b (cn g b) + cB g b (cn g b)), Or.inl ?_, ?_⟩
    · refine bd_ok (hset) ?_
      dsimp only
      refine gd_ok (by first | omega | (constructor <;> omega) | assumption) ?_
      refine in_ok (by first | omega | (constructor <;> omega) | assumption) ?_
      refine in_ok (by first | omega | (constructor <;> omega) | assumption) ?_
      refine ip_ok (by first | omega | (constructor <;> omega) | assumption) ?_
      refine bd_ok (together_ok hN ok S1 (F := fun i => g (cs g b i) + b (cs g b i)) (by decide) (by decide) (fun i _ _ => by show g (cs g b i) + b (cs g b i) = 1 * g (cs g b i) + 1 * b (cs g b i); omega)) ?_
      refine bd_ok (rcases_ok ok S2) ?_
      refine bd_ok (meanBits_ok hN t3 (by omega)) ?_
      rfl
    · refine Rt.bd (lr1) ?_
      dsimp only
      exact mean_r hN hx1 t1.symm t4.symm t3 (by omega) (fun s a c => by
        have := okg s a c
        have h1 := hst s a c
        exact ⟨by show 0 ≤ g s + b s ∧ _; omega, fun h => by omega, fun h => by omega, fun _ => by show _ = g s + b s; omega, fun h => by omega, fun h => by omega⟩) N 0 0 0 (Int.le_refl 0) (by decide) rfl rfl (by omega)
  · have tot := hsm.tot
    have w1 := hsm.sum (fun s => s)
    have w2 := hsm.all
    have es : ∀ s, samp (0 + s) = samp s := fun s => by rw [Int.zero_add]
    simp only [es] at w1 w2
    have hsz := hsm.2.1
    have t3 : 0 ≤ sI (fun i => smScore S la i * smCases S la i) (smSize S la) ∧ sI (fun i => smScore S la i * smCases S la i) (smSize S la) ≤ 1000000000 := by
      have := sI_ab (K := 198000) (f := fun i => smScore S la i * smCases S la i) (n := smSize S la) (fun i i0 i1 => by
        have := hsm.2.2.1 i i0 i1
        have := mul_bd (a := smScore S la i) (b := smCases S la i) (A := 1000) (B := 198) (by omega) (by omega)
        show 0 ≤ smScore S la i * smCases S la i ∧ smScore S la i * smCases S la i ≤ 198000
        omega) (Int.le_refl 0) (smSize S la) hsz.1 (Int.le_refl _)
      have e : sI (fun i => smScore S la i * smCases S la i) 0 = 0 := rfl
      omega
    refine ⟨mnA (sI (fun i => smScore S la i * smCases S la i) (smSize S la)) (smTotal S la), Or.inl ?_, ?_⟩
    · refine bd_ok (hset) ?_
      dsimp only
      refine gd_ok (by first | omega | (constructor <;> omega) | assumption) ?_
      refine in_ok (by first | omega | (constructor <;> omega) | assumption) ?_
      refine in_ok (by first | omega | (constructor <;> omega) | assumption) ?_
      refine in_ok (by first | omega | (constructor <;> omega) | assumption) ?_
      refine ip_ok (by first | omega | (constructor <;> omega) | assumption) ?_
      refine gd_ok hsm.1 ?_
      refine bd_ok (smTog_ok hN hsm) ?_
      refine bd_ok (meanBits_ok hN t3 tot) ?_
      rfl
    · refine Rt.bd (lr1) ?_
      dsimp only
      exact mean_r hN hx1 w1.symm w2.symm t3 tot (fun s a c => by
        have := hsm.pb a c
        rw [es] at this
        exact ⟨by omega, fun h => by omega, fun h => by omega, fun h => by omega, fun _ => rfl, fun h => by omega⟩) N 0 0 0 (Int.le_refl 0) (by decide) rfl rfl (by omega)
  · have z1' : sI (fun s => s * (fun _ => (0 : Int)) s) 1000 = 0 := (sI_congr (fun j _ _ => Int.mul_zero _)).trans (sI_zero (by decide))
    have z2' : sI (fun _ => (0 : Int)) 1000 = 0 := sI_zero (by decide)
    refine ⟨-9223372036854775808, Or.inl ?_, ?_⟩
    · refine bd_ok (hset) ?_
      dsimp only
      refine gd_ok (by first | omega | (constructor <;> omega) | assumption) ?_
      refine in_ok (by first | omega | (constructor <;> omega) | assumption) ?_
      refine in_ok (by first | omega | (constructor <;> omega) | assumption) ?_
      refine in_ok (by first | omega | (constructor <;> omega) | assumption) ?_
      refine in_ok (by first | omega | (constructor <;> omega) | assumption) ?_
      rfl
    · refine Rt.bd (lr1) ?_
      dsimp only
      have := mean_r hN hx1 (stt := stt) (samp := samp) (F := fun _ => 0) (z1 := cn g b) (s1 := sc1) (s2 := go1) (s3 := ba1) z1'.symm z2'.symm (by decide) (by decide) (fun s a c => ⟨by decide, fun h => by omega, fun h => by omega, fun h => by omega, fun h => by omega, fun _ => rfl⟩) N 0 0 0 (Int.le_refl 0) (by decide) rfl rfl (by omega)
      exact this
end
