/-! bands of too few cases, too many bands -/
def bC (G B st : Int → Int) (k : Int) : Int := bG G st k + bG B st k
def am (C : Int → Int) : Nat → Int
  | 0 => 0
  | n + 1 => if C ((n : Int) + 1) < C (am C n) then (n : Int) + 1 else am C n
theorem am_in (C : Int → Int) (n : Nat) : 0 ≤ am C n ∧ am C n ≤ n := by
  induction n with
  | zero => exact ⟨Int.le_refl _, Int.le_refl _⟩
  | succ n ih =>
    rw [am]
    by_cases c : C ((n : Int) + 1) < C (am C n)
    · rw [if_pos c]; omega
    · rw [if_neg c]; omega
def rs (G B st : Int → Int) (k : Int) : Int := iabs (bG B st k * bC G B st (k + 1) - bG B st (k + 1) * bC G B st k)
def gwA (G B st : Int → Int) (k : Int) : Int := rs G B st k * rs G B st k
def gwB (G B st : Int → Int) (k : Int) : Int := bC G B st k * bC G B st (k + 1) * (bC G B st k + bC G B st (k + 1))
def jA (G B st : Int → Int) (m k : Int) : Int := if k = 0 then 0 else if k = m - 1 then k - 1 else if rs G B st k * bC G B st (k - 1) < rs G B st (k - 1) * bC G B st (k + 1) then k else k - 1
def lgr (G B st : Int → Int) : Nat → Int
  | 0 => 0
  | n + 1 => if gwA G B st ((n : Int) + 1) * gwB G B st (lgr G B st n) < gwA G B st (lgr G B st n) * gwB G B st ((n : Int) + 1) then (n : Int) + 1 else lgr G B st n
theorem lgr_in (G B st : Int → Int) (n : Nat) : 0 ≤ lgr G B st n ∧ lgr G B st n ≤ n := by
  induction n with
  | zero => exact ⟨Int.le_refl _, Int.le_refl _⟩
  | succ n ih =>
    rw [lgr]
    by_cases c : gwA G B st ((n : Int) + 1) * gwB G B st (lgr G B st n) < gwA G B st (lgr G B st n) * gwB G B st ((n : Int) + 1)
    · rw [if_pos c]; omega
    · rw [if_neg c]; omega
def jsN (G B : Int → Int) (le : Int) : Nat → (Int → Int) → Int → (Int → Int) × Int
  | 0, st, m => (st, m)
  | f + 1, st, m => if m ≤ 1 then (st, m) else if le ≤ bC G B st (am (bC G B st) (m - 1).toNat) then (st, m) else jsN G B le f (dl st (jA G B st m (am (bC G B st) (m - 1).toNat))) (m - 1)
def jmN (G B : Int → Int) (mo : Int) : Nat → (Int → Int) → Int → (Int → Int) × Int
  | 0, st, m => (st, m)
  | f + 1, st, m => if m ≤ mo then (st, m) else jmN G B mo f (dl st (lgr G B st (m - 2).toNat)) (m - 1)
theorem rs_b {G B st : Int → Int} {k : Int} (h1 : 0 ≤ bG B st k ∧ bG B st k ≤ 11880) (h2 : 0 ≤ bG B st (k + 1) ∧ bG B st (k + 1) ≤ 11880) (h3 : 0 ≤ bC G B st k ∧ bC G B st k ≤ 11880) (h4 : 0 ≤ bC G B st (k + 1) ∧ bC G B st (k + 1) ≤ 11880) : 0 ≤ rs G B st k ∧ rs G B st k ≤ 141134400 := by
  have m1 := mul_bd h1 h4
  have m2 := mul_bd h2 h3
  unfold rs iabs
  split <;> omega
section
variable {N : Nat} {g b sc go ba st st' : Int → Int} {m : Int}
theorem Bd.c (ok : okP g b) (h : Bd (cn g b) st m) {k : Int} (h0 : 0 ≤ k) (hk : k < m) : (0 ≤ bG (cB g b) st k ∧ bG (cB g b) st k ≤ 11880) ∧ (0 ≤ bG (cG g b) st k ∧ bG (cG g b) st k ≤ 11880) ∧ 0 < bC (cG g b) (cB g b) st k ∧ bC (cG g b) (cB g b) st k ≤ 11880 := by
  have := h.b ok h0 hk
  unfold bC
  omega
theorem rs_in (ok : okP g b) (h : Bd (cn g b) st m) {k : Int} (h0 : 0 ≤ k) (hk : k + 1 < m) : 0 ≤ rs (cG g b) (cB g b) st k ∧ rs (cG g b) (cB g b) st k ≤ 141134400 := by
  have b1 := h.c ok h0 (by omega)
  have b2 := h.c ok (k := k + 1) (by omega) hk
  exact rs_b b1.1 b2.1 ⟨by omega, by omega⟩ ⟨by omega, by omega⟩
theorem gwA_in (ok : okP g b) (h : Bd (cn g b) st m) {k : Int} (h0 : 0 ≤ k) (hk : k + 1 < m) : 0 ≤ gwA (cG g b) (cB g b) st k ∧ gwA (cG g b) (cB g b) st k ≤ 1000000000000000000 := by
  have r := rs_in ok h h0 hk
  have := mul_bd r r
  unfold gwA
  omega
theorem gwB_in (ok : okP g b) (h : Bd (cn g b) st m) {k : Int} (h0 : 0 ≤ k) (hk : k + 1 < m) : 0 < gwB (cG g b) (cB g b) st k ∧ gwB (cG g b) (cB g b) st k ≤ 10000000000000 := by
  have b1 := h.c ok h0 (by omega)
  have b2 := h.c ok (k := k + 1) (by omega) hk
  have p1 := Int.mul_pos b1.2.2.1 b2.2.2.1
  have m1 := mul_bd (a := bC (cG g b) (cB g b) st k) (b := bC (cG g b) (cB g b) st (k + 1)) (A := 11880) (B := 11880) (by omega) (by omega)
  have p2 := Int.mul_pos p1 (by omega : 0 < bC (cG g b) (cB g b) st k + bC (cG g b) (cB g b) st (k + 1))
  have m2 := mul_bd (a := bC (cG g b) (cB g b) st k * bC (cG g b) (cB g b) st (k + 1)) (b := bC (cG g b) (cB g b) st k + bC (cG g b) (cB g b) st (k + 1)) (A := 141134400) (B := 23760) (by omega) (by omega)
  unfold gwB
  omega
/-! the reference's -/
theorem fewest_b4_ok (hN : 40000 ≤ N) (ok : okP g b) (hr : RwA g b sc go ba) (hb : Bd (cn g b) st m) (hs : SA st' st m) (hm : 1 ≤ m) : ∀ (f n : Nat) (y1 y2 : Int), y1 = am (bC (cG g b) (cB g b) st) n → y2 = (n : Int) + 1 → y2 ≤ m → (m - y2).toNat < f → m_X13_fewest_b4 N m go ba st' f y1 y2 = some (am (bC (cG g b) (cB g b) st) (m - 1).toNat) := by
  have ok2 := ok.2.1
  have hm2 := hb.1
  intro f
  induction f with
  | zero => intro n y1 y2 _ _ _ h; omega
  | succ f ih =>
    intro n y1 y2 h1 h2 h3 hf
    have hi := am_in (bC (cG g b) (cB g b) st) n
    rw [m_X13_fewest_b4]
    by_cases c1 : m ≤ y2
    · have e : (m - 1).toNat = n := by omega
      refine gd_ok (by first | omega | (constructor <;> omega) | assumption) ?_
      refine gd_ok (by first | omega | (constructor <;> omega) | assumption) ?_
      refine ip_ok (c1) ?_
      rw [e, h1]
    · have b1 := hb.c ok (k := y2) (by omega) (by omega)
      have b2 := hb.c ok (k := y1) (by omega) (by omega)
      unfold bC at b1 b2
      have hC : ∀ k, bC (cG g b) (cB g b) st k = bG (cG g b) st k + bG (cB g b) st k := fun _ => rfl
      refine gd_ok (by first | omega | (constructor <;> omega) | assumption) ?_
      refine gd_ok (by first | omega | (constructor <;> omega) | assumption) ?_
      refine in_ok (c1) ?_
      refine bd_ok (ofBand2 hN ok hr hb hs (by omega) (by omega)) ?_
      refine bd_ok (ofBand2 hN ok hr hb hs (by omega) (by omega)) ?_
      refine gd_ok (by first | omega | (constructor <;> omega) | assumption) ?_
      refine gd_ok (by first | omega | (constructor <;> omega) | assumption) ?_
      by_cases c2 : bG (cG g b) st y1 + bG (cB g b) st y1 ≤ bG (cG g b) st y2 + bG (cB g b) st y2
      · refine ip_ok (c2) ?_
        rw [m_X13_fewest_b33]
        refine ih (n + 1) y1 (y2 + 1) ?_ (by omega) (by omega) (by omega)
        rw [am, ← h2, ← h1, if_neg (by rw [hC, hC]; omega)]
      · refine in_ok (c2) ?_
        rw [m_X13_fewest_b33]
        refine ih (n + 1) y2 (y2 + 1) ?_ (by omega) (by omega) (by omega)
        rw [am, ← h2, ← h1, if_pos (by rw [hC, hC]; omega)]
theorem fewest_ok (hN : 40000 ≤ N) (ok : okP g b) (hr : RwA g b sc go ba) (hb : Bd (cn g b) st m) (hs : SA st' st m) (hm : 1 ≤ m) : m_X13_fewest N m go ba st' = some (am (bC (cG g b) (cB g b) st) (m - 1).toNat) := by
  have ok2 := ok.2.1
  have hm2 := hb.1
  exact fewest_b4_ok hN ok hr hb hs hm N 0 0 1 rfl rfl hm (by omega)
theorem farAbove_ok (hN : 40000 ≤ N) (ok : okP g b) (hr : RwA g b sc go ba) (hb : Bd (cn g b) st m) (hs : SA st' st m) {k : Int} (h0 : 0 ≤ k) (hk : k + 1 < m) : m_X13_farAbove N go ba st' k = some (rs (cG g b) (cB g b) st k) := by
  have b1 := hb.c ok h0 (by omega)
  have b2 := hb.c ok (k := k + 1) (by omega) hk
  have m1 := mul_bd (a := bG (cB g b) st k) (b := bC (cG g b) (cB g b) st (k + 1)) (A := 11880) (B := 11880) (by omega) (by omega)
  have m2 := mul_bd (a := bG (cB g b) st (k + 1)) (b := bC (cG g b) (cB g b) st k) (A := 11880) (B := 11880) (by omega) (by omega)
  unfold rs iabs
  unfold bC at m1 m2 ⊢
  rw [m_X13_farAbove]
  refine bd_ok (ofBand1 hN ok hr hb hs h0 (by omega)) ?_
  refine bd_ok (ofBand2 hN ok hr hb hs (by omega) hk) ?_
  refine bd_ok (ofBand1 hN ok hr hb hs (by omega) hk) ?_
  refine bd_ok (ofBand2 hN ok hr hb hs h0 (by omega)) ?_
  refine gd_ok (by first | omega | (constructor <;> omega) | assumption) ?_
  by_cases c : 0 ≤ bG (cB g b) st k * (bG (cG g b) st (k + 1) + bG (cB g b) st (k + 1)) - bG (cB g b) st (k + 1) * (bG (cG g b) st k + bG (cB g b) st k)
  · refine ip_ok (c) ?_
    congr 1
    split <;> omega
  · refine in_ok (c) ?_
    congr 1
    split <;> omega
theorem farBelow_ok (hN : 40000 ≤ N) (ok : okP g b) (hr : RwA g b sc go ba) (hb : Bd (cn g b) st m) (hs : SA st' st m) {k : Int} (h0 : 0 ≤ k) (hk : k + 1 < m) : m_X13_farBelow N go ba st' k = some (bC (cG g b) (cB g b) st k * bC (cG g b) (cB g b) st (k + 1)) := by
  rw [m_X13_farBelow]
  refine bd_ok (ofBand2 hN ok hr hb hs h0 (by omega)) ?_
  refine bd_ok (ofBand2 hN ok hr hb hs (by omega) hk) ?_
  rfl
theorem near_iff {a c d x y : Int} (hc : 0 < c) : y * (x * c) < a * (c * d) ↔ y * x < a * d := by
  have e1 : y * (x * c) = c * (y * x) := by rw [← Int.mul_assoc, Int.mul_comm]
  have e2 : a * (c * d) = c * (a * d) := by rw [← Int.mul_assoc, Int.mul_comm a c, Int.mul_assoc]
  rw [e1, e2]
  constructor
  · intro h; exact Int.lt_of_mul_lt_mul_left h (Int.le_of_lt hc)
  · intro h; exact Int.mul_lt_mul_of_pos_left h hc
theorem joinedAt_ok (hN : 40000 ≤ N) (ok : okP g b) (hr : RwA g b sc go ba) (hb : Bd (cn g b) st m) (hs : SA st' st m) {k : Int} (h0 : 0 ≤ k) (hk : k < m) (hm : 2 ≤ m) : m_X13_joinedAt N m go ba st' k = some (jA (cG g b) (cB g b) st m k) := by
  have ok2 := ok.2.1
  have hm2 := hb.1
  rw [m_X13_joinedAt]
  by_cases c1 : k = 0
  · have eJ : jA (cG g b) (cB g b) st m k = 0 := if_pos c1
    refine gd_ok (by first | omega | (constructor <;> omega) | assumption) ?_
    refine ip_ok (c1) ?_
    rw [m_X13_joinedAt_b14, eJ]
    refine gd_ok (by first | omega | (constructor <;> omega) | assumption) ?_
    refine ip_ok (c1) ?_
    rfl
  · by_cases c2 : k = m - 1
    · have eJ : jA (cG g b) (cB g b) st m k = k - 1 := by unfold jA; rw [if_neg c1, if_pos c2]
      refine gd_ok (by first | omega | (constructor <;> omega) | assumption) ?_
      refine in_ok (c1) ?_
      refine gd_ok (by first | omega | (constructor <;> omega) | assumption) ?_
      refine ip_ok (c2) ?_
      rw [m_X13_joinedAt_b14, eJ]
      refine gd_ok (by first | omega | (constructor <;> omega) | assumption) ?_
      refine in_ok (c1) ?_
      rfl
    · have e : k - 1 + 1 = k := by omega
      have r1 := rs_in ok hb (k := k - 1) (by omega) (by omega)
      have r2 := rs_in ok hb (k := k) (by omega) (by omega)
      have b0 := hb.c ok (k := k - 1) (by omega) (by omega)
      have b1 := hb.c ok (k := k) (by omega) (by omega)
      have b2 := hb.c ok (k := k + 1) (by omega) (by omega)
      have f1 := farBelow_ok hN ok hr hb hs (k := k - 1) (by omega) (by omega)
      rw [e] at f1
      have p1 := mul_bd (a := bC (cG g b) (cB g b) st (k - 1)) (b := bC (cG g b) (cB g b) st k) (A := 11880) (B := 11880) (by omega) (by omega)
      have p2 := mul_bd (a := bC (cG g b) (cB g b) st k) (b := bC (cG g b) (cB g b) st (k + 1)) (A := 11880) (B := 11880) (by omega) (by omega)
      have q1 := mul_bd r1 p2
      have q2 := mul_bd r2 p1
      have hn := near_iff (a := rs (cG g b) (cB g b) st (k - 1)) (c := bC (cG g b) (cB g b) st k) (d := bC (cG g b) (cB g b) st (k + 1)) (x := bC (cG g b) (cB g b) st (k - 1)) (y := rs (cG g b) (cB g b) st k) b1.2.2.1
      refine gd_ok (by first | omega | (constructor <;> omega) | assumption) ?_
      refine in_ok (c1) ?_
      refine gd_ok (by first | omega | (constructor <;> omega) | assumption) ?_
      refine in_ok (c2) ?_
      refine bd_ok (farAbove_ok hN ok hr hb hs (by omega) (by omega)) ?_
      refine bd_ok (farBelow_ok hN ok hr hb hs (by omega) (by omega)) ?_
      refine bd_ok (farAbove_ok hN ok hr hb hs (by omega) (by omega)) ?_
      refine bd_ok (f1) ?_
      refine gd_ok (by first | omega | (constructor <;> omega) | assumption) ?_
      refine gd_ok (by first | omega | (constructor <;> omega) | assumption) ?_
      by_cases c3 : rs (cG g b) (cB g b) st k * bC (cG g b) (cB g b) st (k - 1) < rs (cG g b) (cB g b) st (k - 1) * bC (cG g b) (cB g b) st (k + 1)
      · have eJ : jA (cG g b) (cB g b) st m k = k := by unfold jA; rw [if_neg c1, if_neg c2, if_pos c3]
        rw [eJ]
        refine ip_ok (hn.mpr c3) ?_
        rfl
      · have eJ : jA (cG g b) (cB g b) st m k = k - 1 := by unfold jA; rw [if_neg c1, if_neg c2, if_neg c3]
        rw [eJ]
        refine in_ok ((fun h => c3 (hn.mp h))) ?_
        rfl
theorem grownAbove_ok (hN : 40000 ≤ N) (ok : okP g b) (hr : RwA g b sc go ba) (hb : Bd (cn g b) st m) (hs : SA st' st m) {k : Int} (h0 : 0 ≤ k) (hk : k + 1 < m) : m_X13_grownAbove N go ba st' k = some (gwA (cG g b) (cB g b) st k) := by
  rw [m_X13_grownAbove]
  refine bd_ok (farAbove_ok hN ok hr hb hs h0 hk) ?_
  refine bd_ok (farAbove_ok hN ok hr hb hs h0 hk) ?_
  rfl
theorem grownBelow_ok (hN : 40000 ≤ N) (ok : okP g b) (hr : RwA g b sc go ba) (hb : Bd (cn g b) st m) (hs : SA st' st m) {k : Int} (h0 : 0 ≤ k) (hk : k + 1 < m) : m_X13_grownBelow N go ba st' k = some (gwB (cG g b) (cB g b) st k) := by
  rw [m_X13_grownBelow]
  refine bd_ok (farBelow_ok hN ok hr hb hs h0 hk) ?_
  refine bd_ok (ofBand2 hN ok hr hb hs h0 (by omega)) ?_
  refine bd_ok (ofBand2 hN ok hr hb hs (by omega) hk) ?_
  rfl
theorem leastGrown_b4_ok (hN : 40000 ≤ N) (ok : okP g b) (hr : RwA g b sc go ba) (hb : Bd (cn g b) st m) (hs : SA st' st m) (hm : 2 ≤ m) : ∀ (f n : Nat) (y1 y2 : Int), y1 = lgr (cG g b) (cB g b) st n → y2 = (n : Int) + 1 → y2 + 1 ≤ m → (m - y2).toNat < f → m_X13_leastGrown_b4 N m go ba st' f y1 y2 = some (lgr (cG g b) (cB g b) st (m - 2).toNat) := by
  have ok2 := ok.2.1
  have hm2 := hb.1
  intro f
  induction f with
  | zero => intro n y1 y2 _ _ _ h; omega
  | succ f ih =>
    intro n y1 y2 h1 h2 h3 hf
    have hi := lgr_in (cG g b) (cB g b) st n
    rw [m_X13_leastGrown_b4]
    by_cases c1 : m ≤ y2 + 1
    · have e : (m - 2).toNat = n := by omega
      refine gd_ok (by first | omega | (constructor <;> omega) | assumption) ?_
      refine gd_ok (by first | omega | (constructor <;> omega) | assumption) ?_
      refine ip_ok (c1) ?_
      rw [e, h1]
    · have a1 := gwA_in ok hb (k := y2) (by omega) (by omega)
      have a2 := gwA_in ok hb (k := y1) (by omega) (by omega)
      have a3 := gwB_in ok hb (k := y2) (by omega) (by omega)
      have a4 := gwB_in ok hb (k := y1) (by omega) (by omega)
      obtain ⟨v, v1, v2, v3⟩ := rLess_ok (N := N) a1 a2 ⟨Int.le_of_lt a4.1, a4.2⟩ ⟨Int.le_of_lt a3.1, a3.2⟩
      refine gd_ok (by first | omega | (constructor <;> omega) | assumption) ?_
      refine gd_ok (by first | omega | (constructor <;> omega) | assumption) ?_
      refine in_ok (c1) ?_
      refine bd_ok (grownAbove_ok hN ok hr hb hs (by omega) (by omega)) ?_
      refine bd_ok (grownBelow_ok hN ok hr hb hs (by omega) (by omega)) ?_
      refine bd_ok (grownAbove_ok hN ok hr hb hs (by omega) (by omega)) ?_
      refine bd_ok (grownBelow_ok hN ok hr hb hs (by omega) (by omega)) ?_
      refine bd_ok (v1) ?_
      refine gd_ok (by first | omega | (constructor <;> omega) | assumption) ?_
      by_cases c2 : v = 0
      · refine ip_ok (c2) ?_
        rw [m_X13_leastGrown_b45]
        refine ih (n + 1) y1 (y2 + 1) ?_ (by omega) (by omega) (by omega)
        rw [lgr, ← h2, ← h1, if_neg (by omega)]
      · refine in_ok (c2) ?_
        rw [m_X13_leastGrown_b45]
        refine ih (n + 1) y2 (y2 + 1) ?_ (by omega) (by omega) (by omega)
        rw [lgr, ← h2, ← h1, if_pos (by omega)]
theorem leastGrown_ok (hN : 40000 ≤ N) (ok : okP g b) (hr : RwA g b sc go ba) (hb : Bd (cn g b) st m) (hs : SA st' st m) (hm : 2 ≤ m) : m_X13_leastGrown N m go ba st' = some (lgr (cG g b) (cB g b) st (m - 2).toNat) := by
  have ok2 := ok.2.1
  have hm2 := hb.1
  exact leastGrown_b4_ok hN ok hr hb hs hm N 0 0 1 rfl rfl (by omega) (by omega)
theorem jA_in {G B : Int → Int} {k : Int} (h0 : 0 ≤ k) (hk : k < m) (hm : 2 ≤ m) : 0 ≤ jA G B st m k ∧ jA G B st m k + 1 < m := by
  unfold jA
  split
  · omega
  · split
    · omega
    · split <;> omega
end
section
variable {N : Nat} {g b sc go ba stt : Int → Int}
theorem laysBands_b53_ok (hN : 40000 ≤ N) (ok : okP g b) (hr : RwA g b sc go ba) (hmo : 1 ≤ stt 3202 ∧ stt 3202 ≤ 60) {n : Int} : ∀ (f F : Nat) (m : Int) (st st' : Int → Int), Bd (cn g b) st m → SA st' st m → m.toNat < f → m.toNat ≤ F → ∃ arr', m_X13_laysBands_b53 N stt n sc go ba f m st' = some (n, (jmN (cG g b) (cB g b) (stt 3202) F st m).2, sc, go, ba, arr') ∧ SA arr' (jmN (cG g b) (cB g b) (stt 3202) F st m).1 (jmN (cG g b) (cB g b) (stt 3202) F st m).2 ∧ Bd (cn g b) (jmN (cG g b) (cB g b) (stt 3202) F st m).1 (jmN (cG g b) (cB g b) (stt 3202) F st m).2 := by
  have ok2 := ok.2.1
  intro f
  induction f with
  | zero => intro F m st st' _ _ h; omega
  | succ f ih =>
    intro F m st st' hb hs hf hF
    have hm := hb.1
    rw [m_X13_laysBands_b53]
    by_cases c : m ≤ stt 3202
    · have e : jmN (cG g b) (cB g b) (stt 3202) F st m = (st, m) := by
        cases F with
        | zero => rfl
        | succ F => rw [jmN, if_pos c]
      rw [e]
      refine ⟨st', ?_, hs, hb⟩
      refine gd_ok (by first | omega | (constructor <;> omega) | assumption) ?_
      refine gd_ok (by first | omega | (constructor <;> omega) | assumption) ?_
      refine ip_ok (c) ?_
      rfl
    · cases F with
      | zero => omega
      | succ F =>
        have eJ : jmN (cG g b) (cB g b) (stt 3202) (F + 1) st m = jmN (cG g b) (cB g b) (stt 3202) F (dl st (lgr (cG g b) (cB g b) st (m - 2).toNat)) (m - 1) := by rw [jmN, if_neg c]
        rw [eJ]
        have li := lgr_in (cG g b) (cB g b) st (m - 2).toNat
        obtain ⟨arr', e1, e2⟩ := joins_ok hN (m := m) (by omega) hs (k := lgr (cG g b) (cB g b) st (m - 2).toNat) li.1 (by omega)
        obtain ⟨a2, q1, q2, q3⟩ := ih F (m - 1) _ arr' (hb.dl li.1 (by omega)) e2 (by omega) (by omega)
        refine ⟨a2, ?_, q2, q3⟩
        refine gd_ok (by first | omega | (constructor <;> omega) | assumption) ?_
        refine gd_ok (by first | omega | (constructor <;> omega) | assumption) ?_
        refine in_ok (c) ?_
        refine bd_ok (leastGrown_ok hN ok hr hb hs (by omega)) ?_
        refine bd_ok (e1) ?_
        exact q1
theorem laysBands_b8_ok (hN : 40000 ≤ N) (ok : okP g b) (hr : RwA g b sc go ba) (hle : 0 ≤ stt 3201 ∧ stt 3201 ≤ 9999) (hmo : 1 ≤ stt 3202 ∧ stt 3202 ≤ 60) {n : Int} : ∀ (f F : Nat) (m : Int) (st st' : Int → Int), Bd (cn g b) st m → SA st' st m → m.toNat < f → m.toNat ≤ F → ∃ arr', m_X13_laysBands_b8 N stt n sc go ba f m st' = m_X13_laysBands_b53 N stt n sc go ba N (jsN (cG g b) (cB g b) (stt 3201) F st m).2 arr' ∧ SA arr' (jsN (cG g b) (cB g b) (stt 3201) F st m).1 (jsN (cG g b) (cB g b) (stt 3201) F st m).2 ∧ Bd (cn g b) (jsN (cG g b) (cB g b) (stt 3201) F st m).1 (jsN (cG g b) (cB g b) (stt 3201) F st m).2 := by
  have ok2 := ok.2.1
  intro f
  induction f with
  | zero => intro F m st st' _ _ h; omega
  | succ f ih =>
    intro F m st st' hb hs hf hF
    have hm := hb.1
    rw [m_X13_laysBands_b8]
    by_cases c : m ≤ 1
    · have e : jsN (cG g b) (cB g b) (stt 3201) F st m = (st, m) := by
        cases F with
        | zero => rfl
        | succ F => rw [jsN, if_pos c]
      rw [e]
      refine ⟨st', ?_, hs, hb⟩
      refine gd_ok (by first | omega | (constructor <;> omega) | assumption) ?_
      refine ip_ok (c) ?_
      rfl
    · have ai := am_in (bC (cG g b) (cB g b) st) (m - 1).toNat
      have bb := hb.c ok (k := am (bC (cG g b) (cB g b) st) (m - 1).toNat) ai.1 (by omega)
      have o2 := ofBand2 hN ok hr hb hs ai.1 (by omega)
      have hC : bG (cG g b) st (am (bC (cG g b) (cB g b) st) (m - 1).toNat) + bG (cB g b) st (am (bC (cG g b) (cB g b) st) (m - 1).toNat) = bC (cG g b) (cB g b) st (am (bC (cG g b) (cB g b) st) (m - 1).toNat) := rfl
      rw [hC] at o2
      cases F with
      | zero => omega
      | succ F =>
        by_cases d : stt 3201 ≤ bC (cG g b) (cB g b) st (am (bC (cG g b) (cB g b) st) (m - 1).toNat)
        · have eJ : jsN (cG g b) (cB g b) (stt 3201) (F + 1) st m = (st, m) := by rw [jsN, if_neg c, if_pos d]
          rw [eJ]
          refine ⟨st', ?_, hs, hb⟩
          refine gd_ok (by first | omega | (constructor <;> omega) | assumption) ?_
          refine in_ok (c) ?_
          refine bd_ok (fewest_ok hN ok hr hb hs (by omega)) ?_
          refine bd_ok (o2) ?_
          refine gd_ok (by first | omega | (constructor <;> omega) | assumption) ?_
          refine gd_ok (by first | omega | (constructor <;> omega) | assumption) ?_
          refine gd_ok (by first | omega | (constructor <;> omega) | assumption) ?_
          refine ip_ok (d) ?_
          rfl
        · have eJ : jsN (cG g b) (cB g b) (stt 3201) (F + 1) st m = jsN (cG g b) (cB g b) (stt 3201) F (dl st (jA (cG g b) (cB g b) st m (am (bC (cG g b) (cB g b) st) (m - 1).toNat))) (m - 1) := by rw [jsN, if_neg c, if_neg d]
          rw [eJ]
          have ji := jA_in (st := st) (G := cG g b) (B := cB g b) ai.1 (show am (bC (cG g b) (cB g b) st) (m - 1).toNat < m by omega) (by omega)
          obtain ⟨arr', e1, e2⟩ := joins_ok hN (m := m) (by omega) hs (k := jA (cG g b) (cB g b) st m (am (bC (cG g b) (cB g b) st) (m - 1).toNat)) ji.1 (by omega)
          obtain ⟨a2, q1, q2, q3⟩ := ih F (m - 1) _ arr' (hb.dl ji.1 ji.2) e2 (by omega) (by omega)
          refine ⟨a2, ?_, q2, q3⟩
          refine gd_ok (by first | omega | (constructor <;> omega) | assumption) ?_
          refine in_ok (c) ?_
          refine bd_ok (fewest_ok hN ok hr hb hs (by omega)) ?_
          refine bd_ok (o2) ?_
          refine gd_ok (by first | omega | (constructor <;> omega) | assumption) ?_
          refine gd_ok (by first | omega | (constructor <;> omega) | assumption) ?_
          refine gd_ok (by first | omega | (constructor <;> omega) | assumption) ?_
          refine in_ok (d) ?_
          refine bd_ok (fewest_ok hN ok hr hb hs (by omega)) ?_
          refine bd_ok (joinedAt_ok hN ok hr hb hs ai.1 (by omega) (by omega)) ?_
          refine bd_ok (e1) ?_
          exact q1
end
def bndP (g b : Int → Int) (le mo : Int) : (Int → Int) × Int := jmN (cG g b) (cB g b) mo 1000 (jsN (cG g b) (cB g b) le 1000 (pst g b) (pmm g b)).1 (jsN (cG g b) (cB g b) le 1000 (pst g b) (pmm g b)).2
def bst (g b : Int → Int) (le mo : Int) : Int → Int := (bndP g b le mo).1
def bmm (g b : Int → Int) (le mo : Int) : Int := (bndP g b le mo).2
theorem laysBands_ok {N : Nat} {g b stt sc go ba st' : Int → Int} {z m : Int} (hN : 40000 ≤ N) (ok : okP g b) (hst : StA stt g b) (hle : 0 ≤ stt 3201 ∧ stt 3201 ≤ 9999) (hmo : 1 ≤ stt 3202 ∧ stt 3202 ≤ 60) : ∃ sc' go' ba' arr', m_X13_laysBands N stt z m sc go ba st' = some (cn g b, bmm g b (stt 3201) (stt 3202), sc', go', ba', arr') ∧ RwA g b sc' go' ba' ∧ SA arr' (bst g b (stt 3201) (stt 3202)) (bmm g b (stt 3201) (stt 3202)) ∧ Bd (cn g b) (bst g b (stt 3201) (stt 3202)) (bmm g b (stt 3201) (stt 3202)) := by
  have ok2 := ok.2.1
  obtain ⟨sc', go', ba', e1, e2⟩ := laysRows_ok (z := z) (sc := sc) (go := go) (ba := ba) hN ok hst
  obtain ⟨a1, f1, f2, f3⟩ := laysPure_ok (st' := st') (m := m) hN ok e2
  have h1 := f3.1
  obtain ⟨a2, p1, p2, p3⟩ := laysBands_b8_ok (stt := stt) hN ok e2 hle hmo (n := cn g b) N 1000 (pmm g b) (pst g b) a1 f3 f2 (by omega) (by omega)
  have h2 := p3.1
  obtain ⟨a3, q1, q2, q3⟩ := laysBands_b53_ok (stt := stt) hN ok e2 hmo (n := cn g b) N 1000 _ _ a2 p3 p2 (by omega) (by omega)
  refine ⟨sc', go', ba', a3, ?_, e2, q2, q3⟩
  rw [m_X13_laysBands]
  refine bd_ok (e1) ?_
  refine bd_ok (f1) ?_
  rw [p1]
  exact q1
theorem bst_Bd {g b : Int → Int} {le mo : Int} (ok : okP g b) (hle : 0 ≤ le ∧ le ≤ 9999) (hmo : 1 ≤ mo ∧ mo ≤ 60) : Bd (cn g b) (bst g b le mo) (bmm g b le mo) := by
  have hst : StA (fun k => if k < 1000 then g k else if k < 3000 then b (k - 1000) else if k = 3201 then le else mo) g b := by
    intro s s0 s1
    refine ⟨if_pos s1, ?_⟩
    show (if 1000 + s < 1000 then g (1000 + s) else if 1000 + s < 3000 then b (1000 + s - 1000) else if 1000 + s = 3201 then le else mo) = b s
    rw [if_neg (by omega), if_pos (by omega)]
    have e : 1000 + s - 1000 = s := by omega
    rw [e]
  obtain ⟨-, -, -, -, -, -, -, h⟩ := laysBands_ok (N := 40000) (z := 0) (m := 0) (sc := g) (go := g) (ba := g) (st' := g) (Nat.le_refl _) ok hst hle hmo
  exact h
