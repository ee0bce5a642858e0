/-! split, splitAt -/
def jw (g b : Int → Int) (k : Int) : Nat → Int
  | 0 => cn g b
  | m + 1 => (sD g b (k - (m : Int) - 1).toNat (jw g b k m)).1
section
variable {N : Nat} {g b : Int → Int}
theorem jw_in (ok : okP g b) {k : Int} (hk : 1 ≤ k ∧ k ≤ cn g b) : ∀ m : Nat, (m : Int) ≤ k → k - (m : Int) ≤ jw g b k m ∧ jw g b k m ≤ cn g b ∧ (1 ≤ m → jw g b k m < cn g b) := by
  intro m
  induction m with
  | zero => intro _; exact ⟨by show k - 0 ≤ cn g b; omega, Int.le_refl _, fun h => by omega⟩
  | succ m ih =>
    intro h
    obtain ⟨i1, i2, -⟩ := ih (by omega)
    have := (sD_g ok (k - (m : Int) - 1).toNat (jw g b k m) (by omega) i2).2
    rw [jw]
    exact ⟨by omega, by omega, fun _ => by omega⟩
theorem first_b6 (ok : okP g b) {k i : Int} (hk : 1 ≤ k ∧ k ≤ cn g b) (hi : 0 ≤ i ∧ i < k) {be : Int → Int} (hb : ∀ q s, 1 ≤ q → q ≤ k → q ≤ s → s ≤ cn g b → be (q * 61 + s) = (sD g b (q - 1).toNat s).1) : ∀ (f m : Nat) (y4 y5 : Int), y4 = jw g b k m → y5 = k - (m : Int) → i ≤ y5 → (y5 - i).toNat < f → m_X10_firstRow_b6 N be k i (cn g b) f y4 y5 = some (jw g b k (k - i).toNat) := by
  have ok2 := ok.2.1
  intro f
  induction f with
  | zero => intro m y4 y5 _ _ _ h; omega
  | succ f ih =>
    intro m y4 y5 h1 h2 h3 hf
    obtain ⟨j1, j2, -⟩ := jw_in ok hk m (by omega)
    rw [m_X10_firstRow_b6]
    by_cases c : y5 ≤ i
    · rw [show (k - i).toNat = m by omega, ← h1]
      refine gd_ok (by first | omega | (constructor <;> omega) | assumption) ?_
      refine gd_ok (by first | omega | (constructor <;> omega) | assumption) ?_
      refine ip_ok (c) ?_
      rfl
    · have e := hb y5 y4 (by omega) (by omega) (by omega) (by omega)
      refine gd_ok (by first | omega | (constructor <;> omega) | assumption) ?_
      refine gd_ok (by first | omega | (constructor <;> omega) | assumption) ?_
      refine in_ok (c) ?_
      refine gd_ok (by first | omega | (constructor <;> omega) | assumption) ?_
      refine ih (m + 1) _ _ ?_ (by omega) (by omega) (by omega)
      rw [e, jw, h1, h2]
theorem first_ok (hN : 40000 ≤ N) (ok : okP g b) {k i : Int} (hk : 1 ≤ k ∧ k ≤ cn g b) (hi : 0 ≤ i ∧ i < k) {be : Int → Int} (hb : ∀ q s, 1 ≤ q → q ≤ k → q ≤ s → s ≤ cn g b → be (q * 61 + s) = (sD g b (q - 1).toNat s).1) : m_X10_firstRow N be k i (cn g b) = some (jw g b k (k - i).toNat) := by
  have ok2 := ok.2.1
  rw [m_X10_firstRow]
  exact first_b6 ok hk hi hb N 0 _ _ rfl (by omega) (by omega) (by omega)
theorem at_b47 (hN : 40000 ≤ N) (ok : okP g b) {stt sc go ba : Int → Int} (hr : RwA g b sc go ba) {k i : Int} (hk : 1 ≤ k ∧ k ≤ cn g b) (hi : 0 ≤ i ∧ i < k) {eb : Int → UInt64} {lb' : Int → Int} (hb : RfR g b k eb lb') : ∀ (f m : Nat) (y3 y4 : Int), y3 = jw g b k m → y4 = k - (m : Int) → i + 1 ≤ y4 → (y4 - i).toNat < f → Rt (m_X13_splitAt_b47 N stt k i (cn g b) sc go ba eb lb' f y3 y4) (cs g b (jw g b k (k - i).toNat)) := by
  have ok2 := ok.2.1
  intro f
  induction f with
  | zero => intro m y3 y4 _ _ _ h; omega
  | succ f ih =>
    intro m y3 y4 h1 h2 h3 hf
    obtain ⟨j1, j2, -⟩ := jw_in ok hk m (by omega)
    rw [m_X13_splitAt_b47]
    by_cases c : y4 ≤ i + 1
    · have e := (hb (i + 1) y3 (by omega) (by omega) (by omega) (by omega)).2
      have ei : 61 * y3 + i + 1 = 61 * y3 + (i + 1) := by omega
      have e2 : (sD g b (i + 1 - 1).toNat y3).1 = jw g b k (k - i).toNat := by
        rw [show (k - i).toNat = m + 1 by omega, jw, h1, show (k - (m : Int) - 1).toNat = (i + 1 - 1).toNat by omega]
      rw [e2] at e
      obtain ⟨q1, q2, q3⟩ := jw_in ok hk (k - i).toNat (by omega)
      have q4 := q3 (by omega)
      have er := (hr (jw g b k (k - i).toNat) (by omega) q4).1
      rw [ei, e, er]
      refine Rt.gd (by first | omega | (constructor <;> omega) | assumption) ?_
      refine Rt.gd (by first | omega | (constructor <;> omega) | assumption) ?_
      refine Rt.ip (c) ?_
      refine Rt.gd (by first | omega | (constructor <;> omega) | assumption) ?_
      refine Rt.gd (by first | omega | (constructor <;> omega) | assumption) ?_
      exact Rt.so
    · have e := (hb y4 y3 (by omega) (by omega) (by omega) (by omega)).2
      refine Rt.gd (by first | omega | (constructor <;> omega) | assumption) ?_
      refine Rt.gd (by first | omega | (constructor <;> omega) | assumption) ?_
      refine Rt.in_ (c) ?_
      refine Rt.gd (by first | omega | (constructor <;> omega) | assumption) ?_
      refine ih (m + 1) _ _ ?_ (by omega) (by omega) (by omega)
      rw [e, jw, h1, h2]
end
section
variable {N : Nat} {g b stt : Int → Int} {le mo sp run run' : Int} {sd rz pz bz : Int} {rsc rgo rba rgA rbA ple pgr pgo pba pri ble bgr bgo bba bri : Int → Int} {rsc' rgo' rba' rgA' rbA' ple' pgr' pgo' pba' pri' ble' bgr' bgo' bba' bri' : Int → Int} {z1 z2 : Int} {s1 s2 s3 s4 : Int → Int}
variable {wh : Int → UInt64} {be : Int → Int} {fe to : Int → UInt64} {eb : Int → UInt64} {lb' : Int → Int}
set_option maxHeartbeats 2000000 in
theorem q_split (hN : 40000 ≤ N) (ok : okP g b) (hle : 0 ≤ le ∧ le ≤ 9999) (hmo : 1 ≤ mo ∧ mo ≤ 60) (hset : m_X12_settle N le mo g b sp sd rz rsc rgo rba rgA rbA pz ple pgr pgo pba pri bz ble bgr bgo bba bri run = some (1, cn g b, rsc', rgo', rba', rgA', rbA', pmm g b, ple', pgr', pgo', pba', pri', bmm g b le mo, ble', bgr', bgo', bba', bri', run')) (hS : Stl g b le mo rsc' rgo' rba' rgA' rbA' ple' pgr' pgo' pba' pri' ble' bgr' bgo' bba' bri') (hst : StA stt g b) (h3 : stt 3201 = le ∧ stt 3202 = mo) (hsp : ¬ sp = 0 → SpR g b run' wh be to) {x1 : Int} (hx1 : rI x1) : ∃ a sp2 R2 wh2 be2 fe2 to2, m_X12_split N le mo g b sd rz rsc rgo rba rgA rbA pz ple pgr pgo pba pri bz ble bgr bgo bba bri sp run wh be fe to x1 = some (a, 1, cn g b, rsc', rgo', rba', rgA', rbA', pmm g b, ple', pgr', pgo', pba', pri', bmm g b le mo, ble', bgr', bgo', bba', bri', sp2, R2, wh2, be2, fe2, to2) ∧ (¬ sp2 = 0 → SpR g b R2 wh2 be2 to2) ∧ Rt (m_X13_split N stt z1 s1 s2 s3 eb lb' x1) a := by
  obtain ⟨sc1, go1, ba1, lr1, hr⟩ := laysRows_ok (z := z1) (sc := s1) (go := s2) (ba := s3) hN ok hst
  obtain ⟨hn, hbm, hpm⟩ := le_mo ok hle hmo
  obtain ⟨S1, S2, S3, S4⟩ := hS
  have ok2 := ok.2.1
  rw [m_X12_split, m_X13_split]
  by_cases c : 1 ≤ x1 ∧ x1 ≤ cn g b
  · obtain ⟨R', wh', be', fe', to', u1, u2, u3⟩ := upTo_ok (N := N) hN ok S2 (sp := sp) (run := run') (wh := wh) (be := be) (fe := fe) (to := to) c hsp
    obtain ⟨eb', lb2, v1, v2⟩ := lays_ok (N := N) hN ok hr (x1 := x1) c (eb := eb) (lb' := lb')
    have zz := sD_z ok (r := (x1 - 1).toNat) (j := cn g b) (by omega) (Int.le_refl _)
    have w1 := u2.2.2.2 x1 c.1 u3
    have w2 := (v2 x1 (cn g b) c.1 (Int.le_refl _) c.2 (Int.le_refl _)).1
    have d1 : m_X5_doubleBits N (wh' x1) = some (dB (sD g b (x1 - 1).toNat (cn g b)).2) := by rw [w1]; exact db_ok hN zz
    have d2 : m_X13_bits N (eb' (61 * cn g b + x1)) = some (dB (sD g b (x1 - 1).toNat (cn g b)).2) := by rw [w2]; exact rb_ok zz
    refine ⟨dB (sD g b (x1 - 1).toNat (cn g b)).2, 1, R', wh', be', fe', to', ?_, fun _ => u2, ?_⟩
    · refine bd_ok (hset) ?_
      dsimp only
      refine gd_ok (by first | omega | (constructor <;> omega) | assumption) ?_
      refine in_ok (by first | omega | (constructor <;> omega) | assumption) ?_
      refine gd_ok (by first | omega | (constructor <;> omega) | assumption) ?_
      refine ip_ok (c.2) ?_
      refine bd_ok (u1) ?_
      dsimp only
      refine gd_ok (by first | omega | (constructor <;> omega) | assumption) ?_
      refine bd_ok (d1) ?_
      rfl
    · refine Rt.bd (lr1) ?_
      dsimp only
      refine Rt.gd (by first | omega | (constructor <;> omega) | assumption) ?_
      refine Rt.gd (by first | omega | (constructor <;> omega) | assumption) ?_
      refine Rt.bd (in1 (rI_L hx1) ⟨by decide, by decide⟩ ⟨by omega, by omega⟩ c) ?_
      refine Rt.gd (by first | omega | (constructor <;> omega) | assumption) ?_
      refine Rt.in_ (by first | omega | (constructor <;> omega) | assumption) ?_
      refine Rt.bd (v1) ?_
      dsimp only
      refine Rt.gd (by first | omega | (constructor <;> omega) | assumption) ?_
      refine Rt.bd (d2) ?_
      exact Rt.so
  · refine ⟨-9223372036854775808, sp, run', wh, be, fe, to, ?_, hsp, ?_⟩
    · by_cases d : x1 < 1
      · refine bd_ok (hset) ?_
        dsimp only
        refine gd_ok (by first | omega | (constructor <;> omega) | assumption) ?_
        refine ip_ok (d) ?_
        rfl
      · refine bd_ok (hset) ?_
        dsimp only
        refine gd_ok (by first | omega | (constructor <;> omega) | assumption) ?_
        refine in_ok (d) ?_
        refine gd_ok (by first | omega | (constructor <;> omega) | assumption) ?_
        refine in_ok (by first | omega | (constructor <;> omega) | assumption) ?_
        rfl
    · refine Rt.bd (lr1) ?_
      dsimp only
      refine Rt.gd (by first | omega | (constructor <;> omega) | assumption) ?_
      refine Rt.gd (by first | omega | (constructor <;> omega) | assumption) ?_
      refine Rt.bd (in0 (rI_L hx1) ⟨by decide, by decide⟩ ⟨by omega, by omega⟩ c) ?_
      refine Rt.gd (by first | omega | (constructor <;> omega) | assumption) ?_
      refine Rt.ip (by first | omega | (constructor <;> omega) | assumption) ?_
      exact Rt.so
set_option maxHeartbeats 2000000 in
theorem q_splitAt (hN : 40000 ≤ N) (ok : okP g b) (hle : 0 ≤ le ∧ le ≤ 9999) (hmo : 1 ≤ mo ∧ mo ≤ 60) (hset : m_X12_settle N le mo g b sp sd rz rsc rgo rba rgA rbA pz ple pgr pgo pba pri bz ble bgr bgo bba bri run = some (1, cn g b, rsc', rgo', rba', rgA', rbA', pmm g b, ple', pgr', pgo', pba', pri', bmm g b le mo, ble', bgr', bgo', bba', bri', run')) (hS : Stl g b le mo rsc' rgo' rba' rgA' rbA' ple' pgr' pgo' pba' pri' ble' bgr' bgo' bba' bri') (hst : StA stt g b) (h3 : stt 3201 = le ∧ stt 3202 = mo) (hsp : ¬ sp = 0 → SpR g b run' wh be to) {x1 x2 : Int} (hx1 : rI x1) (hx2 : rI x2) : ∃ a sp2 R2 wh2 be2 fe2 to2, m_X12_splitAt N le mo g b sd rz rsc rgo rba rgA rbA pz ple pgr pgo pba pri bz ble bgr bgo bba bri sp run wh be fe to x1 x2 = some (a, 1, cn g b, rsc', rgo', rba', rgA', rbA', pmm g b, ple', pgr', pgo', pba', pri', bmm g b le mo, ble', bgr', bgo', bba', bri', sp2, R2, wh2, be2, fe2, to2) ∧ (¬ sp2 = 0 → SpR g b R2 wh2 be2 to2) ∧ Rt (m_X13_splitAt N stt z1 s1 s2 s3 eb lb' x1 x2) a := by
  obtain ⟨sc1, go1, ba1, lr1, hr⟩ := laysRows_ok (z := z1) (sc := s1) (go := s2) (ba := s3) hN ok hst
  obtain ⟨hn, hbm, hpm⟩ := le_mo ok hle hmo
  obtain ⟨S1, S2, S3, S4⟩ := hS
  have ok2 := ok.2.1
  rw [m_X12_splitAt, m_X13_splitAt]
  by_cases c : 1 ≤ x1 ∧ x1 ≤ cn g b
  · by_cases d : 0 ≤ x2 ∧ x2 < x1
    · obtain ⟨R', wh', be', fe', to', u1, u2, u3⟩ := upTo_ok (N := N) hN ok S2 (sp := sp) (run := run') (wh := wh) (be := be) (fe := fe) (to := to) c hsp
      obtain ⟨eb', lb2, v1, v2⟩ := lays_ok (N := N) hN ok hr (x1 := x1) c (eb := eb) (lb' := lb')
      obtain ⟨q1, q2, q3⟩ := jw_in ok c (x1 - x2).toNat (by omega)
      have q4 := q3 (by omega)
      have f1 := first_ok (N := N) hN ok c d (be := be') (fun q s a1 a2 a3 a4 => u2.2.1 q s a1 (by omega) a3 a4)
      have er := (S1 (jw g b x1 (x1 - x2).toNat) (by omega) q4).1
      refine ⟨cs g b (jw g b x1 (x1 - x2).toNat), 1, R', wh', be', fe', to', ?_, fun _ => u2, ?_⟩
      · refine bd_ok (hset) ?_
        dsimp only
        refine gd_ok (by first | omega | (constructor <;> omega) | assumption) ?_
        refine in_ok (by first | omega | (constructor <;> omega) | assumption) ?_
        refine gd_ok (by first | omega | (constructor <;> omega) | assumption) ?_
        refine in_ok (by first | omega | (constructor <;> omega) | assumption) ?_
        refine gd_ok (by first | omega | (constructor <;> omega) | assumption) ?_
        refine in_ok (by first | omega | (constructor <;> omega) | assumption) ?_
        refine ip_ok (d.2) ?_
        refine bd_ok (u1) ?_
        dsimp only
        refine bd_ok (f1) ?_
        refine gd_ok (by first | omega | (constructor <;> omega) | assumption) ?_
        rw [er]
      · refine Rt.bd (lr1) ?_
        dsimp only
        refine Rt.gd (by first | omega | (constructor <;> omega) | assumption) ?_
        refine Rt.gd (by first | omega | (constructor <;> omega) | assumption) ?_
        refine Rt.bd (in1 (rI_L hx1) ⟨by decide, by decide⟩ ⟨by omega, by omega⟩ c) ?_
        refine Rt.gd (by first | omega | (constructor <;> omega) | assumption) ?_
        refine Rt.in_ (by first | omega | (constructor <;> omega) | assumption) ?_
        refine Rt.gd (by first | omega | (constructor <;> omega) | assumption) ?_
        refine Rt.gd (by first | omega | (constructor <;> omega) | assumption) ?_
        refine Rt.bd (in1 (rI_L hx2) ⟨by decide, by decide⟩ ⟨by omega, by omega⟩ ⟨d.1, by omega⟩) ?_
        refine Rt.gd (by first | omega | (constructor <;> omega) | assumption) ?_
        refine Rt.in_ (by first | omega | (constructor <;> omega) | assumption) ?_
        refine Rt.bd (v1) ?_
        dsimp only
        exact at_b47 hN ok hr c d v2 N 0 _ _ rfl (by omega) (by omega) (by omega)
    · refine ⟨-2, sp, run', wh, be, fe, to, ?_, hsp, ?_⟩
      · by_cases e : x2 < 0
        · refine bd_ok (hset) ?_
          dsimp only
          refine gd_ok (by first | omega | (constructor <;> omega) | assumption) ?_
          refine in_ok (by first | omega | (constructor <;> omega) | assumption) ?_
          refine gd_ok (by first | omega | (constructor <;> omega) | assumption) ?_
          refine in_ok (by first | omega | (constructor <;> omega) | assumption) ?_
          refine gd_ok (by first | omega | (constructor <;> omega) | assumption) ?_
          refine ip_ok (e) ?_
          rfl
        · refine bd_ok (hset) ?_
          dsimp only
          refine gd_ok (by first | omega | (constructor <;> omega) | assumption) ?_
          refine in_ok (by first | omega | (constructor <;> omega) | assumption) ?_
          refine gd_ok (by first | omega | (constructor <;> omega) | assumption) ?_
          refine in_ok (by first | omega | (constructor <;> omega) | assumption) ?_
          refine gd_ok (by first | omega | (constructor <;> omega) | assumption) ?_
          refine in_ok (e) ?_
          refine in_ok (by first | omega | (constructor <;> omega) | assumption) ?_
          rfl
      · refine Rt.bd (lr1) ?_
        dsimp only
        refine Rt.gd (by first | omega | (constructor <;> omega) | assumption) ?_
        refine Rt.gd (by first | omega | (constructor <;> omega) | assumption) ?_
        refine Rt.bd (in1 (rI_L hx1) ⟨by decide, by decide⟩ ⟨by omega, by omega⟩ c) ?_
        refine Rt.gd (by first | omega | (constructor <;> omega) | assumption) ?_
        refine Rt.in_ (by first | omega | (constructor <;> omega) | assumption) ?_
        refine Rt.gd (by first | omega | (constructor <;> omega) | assumption) ?_
        refine Rt.gd (by first | omega | (constructor <;> omega) | assumption) ?_
        refine Rt.bd (in0 (rI_L hx2) ⟨by decide, by decide⟩ ⟨by omega, by omega⟩ (by omega)) ?_
        refine Rt.gd (by first | omega | (constructor <;> omega) | assumption) ?_
        refine Rt.ip (by first | omega | (constructor <;> omega) | assumption) ?_
        exact Rt.so
  · refine ⟨-2, sp, run', wh, be, fe, to, ?_, hsp, ?_⟩
    · by_cases d : x1 < 1
      · refine bd_ok (hset) ?_
        dsimp only
        refine gd_ok (by first | omega | (constructor <;> omega) | assumption) ?_
        refine ip_ok (d) ?_
        rfl
      · refine bd_ok (hset) ?_
        dsimp only
        refine gd_ok (by first | omega | (constructor <;> omega) | assumption) ?_
        refine in_ok (d) ?_
        refine gd_ok (by first | omega | (constructor <;> omega) | assumption) ?_
        refine ip_ok (by first | omega | (constructor <;> omega) | assumption) ?_
        rfl
    · refine Rt.bd (lr1) ?_
      dsimp only
      refine Rt.gd (by first | omega | (constructor <;> omega) | assumption) ?_
      refine Rt.gd (by first | omega | (constructor <;> omega) | assumption) ?_
      refine Rt.bd (in0 (rI_L hx1) ⟨by decide, by decide⟩ ⟨by omega, by omega⟩ c) ?_
      refine Rt.gd (by first | omega | (constructor <;> omega) | assumption) ?_
      refine Rt.ip (by first | omega | (constructor <;> omega) | assumption) ?_
      exact Rt.so
end
