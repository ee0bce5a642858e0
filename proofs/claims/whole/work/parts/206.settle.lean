/-! the class's joins, and what it settles -/
section
variable {N : Nat} {g b s st le gr go ba ri : Int → Int} {m : Int}
theorem Lad.c (ok : okP g b) (hb : Bd (cn g b) st m) (h : Lad s (cG g b) (cB g b) st m le gr go ba ri) {k : Int} (h0 : 0 ≤ k) (hk : k < m) : go k + ba k = bC (cG g b) (cB g b) st k ∧ ba k = bG (cB g b) st k := by
  obtain ⟨-, -, e1, e2, -⟩ := h k h0 hk
  rw [e1, e2]
  exact ⟨rfl, rfl⟩
theorem casesC (ok : okP g b) (hb : Bd (cn g b) st m) (h : Lad s (cG g b) (cB g b) st m le gr go ba ri) {k : Int} (h0 : 0 ≤ k) (hk : k < m) : m_X4_cases N go ba k = some (bC (cG g b) (cB g b) st k) := by
  have hm := hb.1
  have ok2 := ok.2.1
  rw [cases_ok (by omega), (h.c ok hb h0 hk).1]
theorem smallest_b4_ok (ok : okP g b) (hb : Bd (cn g b) st m) (h : Lad s (cG g b) (cB g b) st m le gr go ba ri) (hm : 1 ≤ m) : ∀ (f n : Nat) (y1 y2 : Int), y1 = am (bC (cG g b) (cB g b) st) n → y2 = (n : Int) + 1 → y2 ≤ m → (m - y2).toNat < f → m_X4_smallest_b4 N m go ba f y1 y2 = some (am (bC (cG g b) (cB g b) st) (m - 1).toNat) := by
  have ok2 := ok.2.1
  have hm2 := hb.1
  intro f
  induction f with
  | zero => intro n y1 y2 _ _ _ h; omega
  | succ f ih =>
    intro n y1 y2 h1 h2 h3 hf
    have hi := am_in (bC (cG g b) (cB g b) st) n
    rw [m_X4_smallest_b4]
    by_cases c1 : m ≤ y2
    · have e : (m - 1).toNat = n := by omega
      refine gd_ok (by first | omega | (constructor <;> omega) | assumption) ?_
      refine gd_ok (by first | omega | (constructor <;> omega) | assumption) ?_
      refine ip_ok (c1) ?_
      rw [e, h1]
    · have b1 := hb.c ok (k := y2) (by omega) (by omega)
      have b2 := hb.c ok (k := y1) (by omega) (by omega)
      refine gd_ok (by first | omega | (constructor <;> omega) | assumption) ?_
      refine gd_ok (by first | omega | (constructor <;> omega) | assumption) ?_
      refine in_ok (c1) ?_
      refine bd_ok (casesC ok hb h (by omega) (by omega)) ?_
      refine bd_ok (casesC ok hb h (by omega) (by omega)) ?_
      refine gd_ok (by first | omega | (constructor <;> omega) | assumption) ?_
      refine gd_ok (by first | omega | (constructor <;> omega) | assumption) ?_
      by_cases c2 : bC (cG g b) (cB g b) st y1 ≤ bC (cG g b) (cB g b) st y2
      · refine ip_ok (c2) ?_
        rw [m_X4_smallest_b27]
        refine ih (n + 1) y1 (y2 + 1) ?_ (by omega) (by omega) (by omega)
        rw [am, ← h2, ← h1, if_neg (by omega)]
      · refine in_ok (c2) ?_
        rw [m_X4_smallest_b27]
        refine ih (n + 1) y2 (y2 + 1) ?_ (by omega) (by omega) (by omega)
        rw [am, ← h2, ← h1, if_pos (by omega)]
theorem smallest_ok (hN : 40000 ≤ N) (ok : okP g b) (hb : Bd (cn g b) st m) (h : Lad s (cG g b) (cB g b) st m le gr go ba ri) (hm : 1 ≤ m) : m_X4_smallest N m go ba = some (am (bC (cG g b) (cB g b) st) (m - 1).toNat) := by
  have ok2 := ok.2.1
  have hm2 := hb.1
  exact smallest_b4_ok ok hb h hm N 0 0 1 rfl rfl hm (by omega)
theorem rise_ok (ok : okP g b) (hb : Bd (cn g b) st m) (h : Lad s (cG g b) (cB g b) st m le gr go ba ri) {k : Int} (h0 : 0 ≤ k) (hk : k + 1 < m) : m_X4_rise N go ba k = some (rs (cG g b) (cB g b) st k) := by
  have ok2 := ok.2.1
  have hm2 := hb.1
  have b1 := hb.c ok h0 (by omega)
  have b2 := hb.c ok (k := k + 1) (by omega) hk
  have m1 := mul_bd (a := bG (cB g b) st k) (b := bC (cG g b) (cB g b) st (k + 1)) (A := 11880) (B := 11880) (by omega) (by omega)
  have m2 := mul_bd (a := bG (cB g b) st (k + 1)) (b := bC (cG g b) (cB g b) st k) (A := 11880) (B := 11880) (by omega) (by omega)
  have e1 := (h.c ok hb h0 (by omega)).2
  have e2 := (h.c ok hb (k := k + 1) (by omega) hk).2
  rw [m_X4_rise, e1, e2]
  refine gd_ok (by first | omega | (constructor <;> omega) | assumption) ?_
  refine gd_ok (by first | omega | (constructor <;> omega) | assumption) ?_
  refine bd_ok (casesC ok hb h (by omega) (by omega)) ?_
  refine gd_ok (by first | omega | (constructor <;> omega) | assumption) ?_
  refine gd_ok (by first | omega | (constructor <;> omega) | assumption) ?_
  refine gd_ok (by first | omega | (constructor <;> omega) | assumption) ?_
  refine bd_ok (casesC ok hb h (by omega) (by omega)) ?_
  refine gd_ok (by first | omega | (constructor <;> omega) | assumption) ?_
  refine gd_ok (by first | omega | (constructor <;> omega) | assumption) ?_
  rfl
theorem lowerNearer_ok (hN : 40000 ≤ N) (ok : okP g b) (hb : Bd (cn g b) st m) (h : Lad s (cG g b) (cB g b) st m le gr go ba ri) {k : Int} (h0 : 0 ≤ k) (hk : k < m) (hm : 2 ≤ m) : (m_X4_isLowerNearer N m go ba k = some 0 ∧ jA (cG g b) (cB g b) st m k = k) ∨ (m_X4_isLowerNearer N m go ba k = some 1 ∧ jA (cG g b) (cB g b) st m k = k - 1) := by
  have ok2 := ok.2.1
  have hm2 := hb.1
  rw [m_X4_isLowerNearer]
  by_cases c1 : k = 0
  · have eJ : jA (cG g b) (cB g b) st m k = k := by unfold jA; rw [if_pos c1, c1]
    refine Or.inl ⟨?_, eJ⟩
    refine gd_ok (by first | omega | (constructor <;> omega) | assumption) ?_
    refine ip_ok (c1) ?_
    rfl
  · by_cases c2 : k = m - 1
    · have eJ : jA (cG g b) (cB g b) st m k = k - 1 := by unfold jA; rw [if_neg c1, if_pos c2]
      refine Or.inr ⟨?_, eJ⟩
      refine gd_ok (by first | omega | (constructor <;> omega) | assumption) ?_
      refine in_ok (c1) ?_
      refine gd_ok (by first | omega | (constructor <;> omega) | assumption) ?_
      refine ip_ok (c2) ?_
      rfl
    · have r1 := rs_in ok hb (k := k - 1) (by omega) (by omega)
      have r2 := rs_in ok hb (k := k) (by omega) (by omega)
      have b0 := hb.c ok (k := k - 1) (by omega) (by omega)
      have b2 := hb.c ok (k := k + 1) (by omega) (by omega)
      have q1 := mul_bd (b := bC (cG g b) (cB g b) st (k + 1)) (B := 11880) r1 (by omega)
      have q2 := mul_bd (b := bC (cG g b) (cB g b) st (k - 1)) (B := 11880) r2 (by omega)
      by_cases c3 : rs (cG g b) (cB g b) st k * bC (cG g b) (cB g b) st (k - 1) < rs (cG g b) (cB g b) st (k - 1) * bC (cG g b) (cB g b) st (k + 1)
      · have eJ : jA (cG g b) (cB g b) st m k = k := by unfold jA; rw [if_neg c1, if_neg c2, if_pos c3]
        refine Or.inl ⟨?_, eJ⟩
        refine gd_ok (by first | omega | (constructor <;> omega) | assumption) ?_
        refine in_ok (c1) ?_
        refine gd_ok (by first | omega | (constructor <;> omega) | assumption) ?_
        refine in_ok (c2) ?_
        refine bd_ok (rise_ok ok hb h (by omega) (by omega)) ?_
        refine bd_ok (casesC ok hb h (by omega) (by omega)) ?_
        refine gd_ok (by first | omega | (constructor <;> omega) | assumption) ?_
        refine bd_ok (rise_ok ok hb h (by omega) (by omega)) ?_
        refine bd_ok (casesC ok hb h (by omega) (by omega)) ?_
        refine gd_ok (by first | omega | (constructor <;> omega) | assumption) ?_
        refine gd_ok (by first | omega | (constructor <;> omega) | assumption) ?_
        refine gd_ok (by first | omega | (constructor <;> omega) | assumption) ?_
        refine ip_ok (c3) ?_
        rfl
      · have eJ : jA (cG g b) (cB g b) st m k = k - 1 := by unfold jA; rw [if_neg c1, if_neg c2, if_neg c3]
        refine Or.inr ⟨?_, eJ⟩
        refine gd_ok (by first | omega | (constructor <;> omega) | assumption) ?_
        refine in_ok (c1) ?_
        refine gd_ok (by first | omega | (constructor <;> omega) | assumption) ?_
        refine in_ok (c2) ?_
        refine bd_ok (rise_ok ok hb h (by omega) (by omega)) ?_
        refine bd_ok (casesC ok hb h (by omega) (by omega)) ?_
        refine gd_ok (by first | omega | (constructor <;> omega) | assumption) ?_
        refine bd_ok (rise_ok ok hb h (by omega) (by omega)) ?_
        refine bd_ok (casesC ok hb h (by omega) (by omega)) ?_
        refine gd_ok (by first | omega | (constructor <;> omega) | assumption) ?_
        refine gd_ok (by first | omega | (constructor <;> omega) | assumption) ?_
        refine gd_ok (by first | omega | (constructor <;> omega) | assumption) ?_
        refine in_ok (c3) ?_
        rfl
theorem growthAbove_ok (ok : okP g b) (hb : Bd (cn g b) st m) (h : Lad s (cG g b) (cB g b) st m le gr go ba ri) {k : Int} (h0 : 0 ≤ k) (hk : k + 1 < m) : m_X4_growthAbove N go ba k = some (gwA (cG g b) (cB g b) st k) := by
  rw [m_X4_growthAbove]
  refine bd_ok (rise_ok ok hb h h0 hk) ?_
  refine bd_ok (rise_ok ok hb h h0 hk) ?_
  rfl
theorem growthBelow_ok (ok : okP g b) (hb : Bd (cn g b) st m) (h : Lad s (cG g b) (cB g b) st m le gr go ba ri) {k : Int} (h0 : 0 ≤ k) (hk : k + 1 < m) : m_X4_growthBelow N go ba k = some (gwB (cG g b) (cB g b) st k) := by
  have b1 := hb.c ok h0 (by omega)
  have b2 := hb.c ok (k := k + 1) (by omega) hk
  rw [m_X4_growthBelow]
  refine bd_ok (casesC ok hb h h0 (by omega)) ?_
  refine gd_ok (by first | omega | (constructor <;> omega) | assumption) ?_
  refine bd_ok (casesC ok hb h (by omega) hk) ?_
  refine gd_ok (by first | omega | (constructor <;> omega) | assumption) ?_
  refine bd_ok (casesC ok hb h h0 (by omega)) ?_
  refine bd_ok (casesC ok hb h (by omega) hk) ?_
  refine gd_ok (by first | omega | (constructor <;> omega) | assumption) ?_
  rfl
theorem cheapest_b4_ok (hN : 40000 ≤ N) (ok : okP g b) (hb : Bd (cn g b) st m) (h : Lad s (cG g b) (cB g b) st m le gr go ba ri) (hm : 2 ≤ m) : ∀ (f n : Nat) (y1 y2 : Int), y1 = lgr (cG g b) (cB g b) st n → y2 = (n : Int) + 1 → y2 + 1 ≤ m → (m - y2).toNat < f → m_X4_cheapest_b4 N m go ba f y1 y2 = some (lgr (cG g b) (cB g b) st (m - 2).toNat) := by
  have ok2 := ok.2.1
  have hm2 := hb.1
  intro f
  induction f with
  | zero => intro n y1 y2 _ _ _ h; omega
  | succ f ih =>
    intro n y1 y2 h1 h2 h3 hf
    have hi := lgr_in (cG g b) (cB g b) st n
    rw [m_X4_cheapest_b4]
    by_cases c1 : m - 1 ≤ y2
    · have e : (m - 2).toNat = n := by omega
      refine gd_ok (by first | omega | (constructor <;> omega) | assumption) ?_
      refine gd_ok (by first | omega | (constructor <;> omega) | assumption) ?_
      refine ip_ok (c1) ?_
      rw [e, h1]
    · have a1 := gwA_in ok hb (k := y2) (by omega) (by omega)
      have a2 := gwA_in ok hb (k := y1) (by omega) (by omega)
      have a3 := gwB_in ok hb (k := y2) (by omega) (by omega)
      have a4 := gwB_in ok hb (k := y1) (by omega) (by omega)
      obtain ⟨v, v1, v2, v3⟩ := isLess_ok hN a1 a2 a3 a4
      refine gd_ok (by first | omega | (constructor <;> omega) | assumption) ?_
      refine gd_ok (by first | omega | (constructor <;> omega) | assumption) ?_
      refine in_ok (c1) ?_
      refine bd_ok (growthAbove_ok ok hb h (by omega) (by omega)) ?_
      refine bd_ok (growthBelow_ok ok hb h (by omega) (by omega)) ?_
      refine bd_ok (growthAbove_ok ok hb h (by omega) (by omega)) ?_
      refine bd_ok (growthBelow_ok ok hb h (by omega) (by omega)) ?_
      refine bd_ok (v1) ?_
      refine gd_ok (by first | omega | (constructor <;> omega) | assumption) ?_
      by_cases c2 : v = 0
      · refine ip_ok (c2) ?_
        rw [m_X4_cheapest_b42]
        refine ih (n + 1) y1 (y2 + 1) ?_ (by omega) (by omega) (by omega)
        rw [lgr, ← h2, ← h1, if_neg (by omega)]
      · refine in_ok (c2) ?_
        rw [m_X4_cheapest_b42]
        refine ih (n + 1) y2 (y2 + 1) ?_ (by omega) (by omega) (by omega)
        rw [lgr, ← h2, ← h1, if_pos (by omega)]
theorem cheapest_ok (hN : 40000 ≤ N) (ok : okP g b) (hb : Bd (cn g b) st m) (h : Lad s (cG g b) (cB g b) st m le gr go ba ri) (hm : 2 ≤ m) : m_X4_cheapest N m go ba = some (lgr (cG g b) (cB g b) st (m - 2).toNat) := by
  have ok2 := ok.2.1
  have hm2 := hb.1
  exact cheapest_b4_ok hN ok hb h hm N 0 0 1 rfl rfl (by omega) (by omega)
end
section
variable {N : Nat} {g b s : Int → Int}
theorem joinSmall_b5_ok (hN : 40000 ≤ N) (ok : okP g b) {x : Int} (hx : rI x) : ∀ (f F : Nat) (m : Int) (st le gr go ba ri : Int → Int), Bd (cn g b) st m → Lad s (cG g b) (cB g b) st m le gr go ba ri → m.toNat < f → m.toNat ≤ F → ∃ le' gr' go' ba' ri', m_X4_joinSmall_b5 N x f m le gr go ba ri m = some ((jsN (cG g b) (cB g b) x F st m).2, le', gr', go', ba', ri') ∧ Lad s (cG g b) (cB g b) (jsN (cG g b) (cB g b) x F st m).1 (jsN (cG g b) (cB g b) x F st m).2 le' gr' go' ba' ri' ∧ Bd (cn g b) (jsN (cG g b) (cB g b) x F st m).1 (jsN (cG g b) (cB g b) x F st m).2 := by
  have ok2 := ok.2.1
  intro f
  induction f with
  | zero => intro F m st le gr go ba ri _ _ h; omega
  | succ f ih =>
    intro F m st le gr go ba ri hb h hf hF
    have hm := hb.1
    rw [m_X4_joinSmall_b5]
    by_cases c : m < 2
    · have e : jsN (cG g b) (cB g b) x F st m = (st, m) := by
        cases F with
        | zero => rfl
        | succ F => rw [jsN, if_pos (by omega)]
      rw [e]
      refine ⟨le, gr, go, ba, ri, ?_, h, hb⟩
      refine gd_ok (by first | omega | (constructor <;> omega) | assumption) ?_
      refine ip_ok (c) ?_
      rfl
    · have ai := am_in (bC (cG g b) (cB g b) st) (m - 1).toNat
      have bb := hb.c ok (k := am (bC (cG g b) (cB g b) st) (m - 1).toNat) ai.1 (by omega)
      cases F with
      | zero => omega
      | succ F =>
        by_cases d : bC (cG g b) (cB g b) st (am (bC (cG g b) (cB g b) st) (m - 1).toNat) < x
        · have eJ : jsN (cG g b) (cB g b) x (F + 1) st m = jsN (cG g b) (cB g b) x F (dl st (jA (cG g b) (cB g b) st m (am (bC (cG g b) (cB g b) st) (m - 1).toNat))) (m - 1) := by rw [jsN, if_neg (by omega), if_neg (by omega)]
          rw [eJ]
          have ji := jA_in (st := st) (G := cG g b) (B := cB g b) ai.1 (show am (bC (cG g b) (cB g b) st) (m - 1).toNat < m by omega) (by omega)
          obtain ⟨le1, gr1, go1, ba1, ri1, e1, e2⟩ := join_ok (N := N) (by omega) h ji.1 ji.2
          obtain ⟨le2, gr2, go2, ba2, ri2, q1, q2, q3⟩ := ih F (m - 1) _ le1 gr1 go1 ba1 ri1 (hb.dl ji.1 ji.2) e2 (by omega) (by omega)
          refine ⟨le2, gr2, go2, ba2, ri2, ?_, q2, q3⟩
          have em : m + -1 = m - 1 := by omega
          refine gd_ok (by first | omega | (constructor <;> omega) | assumption) ?_
          refine in_ok (c) ?_
          refine bd_ok (smallest_ok hN ok hb h (by omega)) ?_
          refine bd_ok (casesC ok hb h ai.1 (by omega)) ?_
          refine gd_ok (by first | omega | (constructor <;> omega) | assumption) ?_
          refine gd_ok (by first | omega | (constructor <;> omega) | assumption) ?_
          refine ip_ok (d) ?_
          rcases lowerNearer_ok hN ok hb h ai.1 (show am (bC (cG g b) (cB g b) st) (m - 1).toNat < m by omega) (by omega) with ⟨w1, w2⟩ | ⟨w1, w2⟩
          · refine bd_ok (w1) ?_
            refine gd_ok (by first | omega | (constructor <;> omega) | assumption) ?_
            refine ip_ok (rfl) ?_
            rw [m_X4_joinSmall_b41, em]
            rw [w2] at e1
            refine bd_ok (e1) ?_
            exact q1
          · refine bd_ok (w1) ?_
            refine gd_ok (by first | omega | (constructor <;> omega) | assumption) ?_
            refine in_ok ((by decide)) ?_
            rw [m_X4_joinSmall_b41, em]
            rw [w2] at e1
            refine bd_ok (e1) ?_
            exact q1
        · have eJ : jsN (cG g b) (cB g b) x (F + 1) st m = (st, m) := by rw [jsN, if_neg (by omega), if_pos (by omega)]
          rw [eJ]
          refine ⟨le, gr, go, ba, ri, ?_, h, hb⟩
          refine gd_ok (by first | omega | (constructor <;> omega) | assumption) ?_
          refine in_ok (c) ?_
          refine bd_ok (smallest_ok hN ok hb h (by omega)) ?_
          refine bd_ok (casesC ok hb h ai.1 (by omega)) ?_
          refine gd_ok (by first | omega | (constructor <;> omega) | assumption) ?_
          refine gd_ok (by first | omega | (constructor <;> omega) | assumption) ?_
          refine in_ok (d) ?_
          rfl
theorem joinMany_b5_ok (hN : 40000 ≤ N) (ok : okP g b) {x : Int} (hx : 1 ≤ x ∧ x ≤ 60) : ∀ (f F : Nat) (m : Int) (st le gr go ba ri : Int → Int), Bd (cn g b) st m → Lad s (cG g b) (cB g b) st m le gr go ba ri → m.toNat < f → m.toNat ≤ F → ∃ le' gr' go' ba' ri', m_X4_joinMany_b5 N x f m le gr go ba ri m = some ((jmN (cG g b) (cB g b) x F st m).2, le', gr', go', ba', ri') ∧ Lad s (cG g b) (cB g b) (jmN (cG g b) (cB g b) x F st m).1 (jmN (cG g b) (cB g b) x F st m).2 le' gr' go' ba' ri' := by
  have ok2 := ok.2.1
  intro f
  induction f with
  | zero => intro F m st le gr go ba ri _ _ h; omega
  | succ f ih =>
    intro F m st le gr go ba ri hb h hf hF
    have hm := hb.1
    rw [m_X4_joinMany_b5]
    by_cases c : m ≤ x
    · have e : jmN (cG g b) (cB g b) x F st m = (st, m) := by
        cases F with
        | zero => rfl
        | succ F => rw [jmN, if_pos c]
      rw [e]
      refine ⟨le, gr, go, ba, ri, ?_, h⟩
      by_cases c2 : m < 2
      · refine gd_ok (by first | omega | (constructor <;> omega) | assumption) ?_
        refine ip_ok (c2) ?_
        rfl
      · refine gd_ok (by first | omega | (constructor <;> omega) | assumption) ?_
        refine in_ok (c2) ?_
        refine gd_ok (by first | omega | (constructor <;> omega) | assumption) ?_
        refine ip_ok (c) ?_
        rfl
    · cases F with
      | zero => omega
      | succ F =>
        have li := lgr_in (cG g b) (cB g b) st (m - 2).toNat
        have eJ : jmN (cG g b) (cB g b) x (F + 1) st m = jmN (cG g b) (cB g b) x F (dl st (lgr (cG g b) (cB g b) st (m - 2).toNat)) (m - 1) := by rw [jmN, if_neg c]
        rw [eJ]
        obtain ⟨le1, gr1, go1, ba1, ri1, e1, e2⟩ := join_ok (N := N) (by omega) h (k := lgr (cG g b) (cB g b) st (m - 2).toNat) li.1 (by omega)
        obtain ⟨le2, gr2, go2, ba2, ri2, q1, q2⟩ := ih F (m - 1) _ le1 gr1 go1 ba1 ri1 (hb.dl li.1 (by omega)) e2 (by omega) (by omega)
        refine ⟨le2, gr2, go2, ba2, ri2, ?_, q2⟩
        have em : m + -1 = m - 1 := by omega
        refine gd_ok (by first | omega | (constructor <;> omega) | assumption) ?_
        refine in_ok (by first | omega | (constructor <;> omega) | assumption) ?_
        refine gd_ok (by first | omega | (constructor <;> omega) | assumption) ?_
        refine in_ok (c) ?_
        refine bd_ok (cheapest_ok hN ok hb h (by omega)) ?_
        refine bd_ok (e1) ?_
        rw [em]
        exact q1
theorem copy_ok {G B st le gr go ba ri : Int → Int} {m : Int} (hm : 0 ≤ m ∧ m ≤ 60) (h : Lad s G B st m le gr go ba ri) {z : Int} {le0 gr0 go0 ba0 ri0 : Int → Int} : ∃ le' gr' go' ba' ri', m_X4_copy N m le gr go ba ri z le0 gr0 go0 ba0 ri0 = some (m, le', gr', go', ba', ri') ∧ Lad s G B st m le' gr' go' ba' ri' := by
  refine ⟨cP le le0 0 0 m, cP gr gr0 0 0 m, cP go go0 0 0 m, cP ba ba0 0 0 m, cP ri ri0 0 0 m, ?_, fun k k0 k1 => ?_⟩
  · rw [m_X4_copy]
    refine gd_ok (by first | omega | (constructor <;> omega) | assumption) ?_
    refine gd_ok (by first | omega | (constructor <;> omega) | assumption) ?_
    rfl
  · have e : 0 + (k - 0) = k := by omega
    rw [cP_i (by omega), cP_i (by omega), cP_i (by omega), cP_i (by omega), cP_i (by omega), e]
    exact h k k0 k1
end
/-- rows, bands of falling rates, bands: as they must lie when they are settled -/
def Stl (g b : Int → Int) (le mo : Int) (rsc rgo rba rgA rbA ple pgr pgo pba pri ble bgr bgo bba bri : Int → Int) : Prop := RwA g b rsc rgo rba ∧ AhA g b rgA rbA ∧ Lad (cs g b) (cG g b) (cB g b) (pst g b) (pmm g b) ple pgr pgo pba pri ∧ Lad (cs g b) (cG g b) (cB g b) (bst g b le mo) (bmm g b le mo) ble bgr bgo bba bri
section
variable {N : Nat} {g b : Int → Int} {le mo : Int}
theorem settle_ok (hN : 40000 ≤ N) (ok : okP g b) (hle : 0 ≤ le ∧ le ≤ 9999) (hmo : 1 ≤ mo ∧ mo ≤ 60) {sd rz pz bz : Int} {rsc rgo rba rgA rbA ple pgr pgo pba pri ble bgr bgo bba bri : Int → Int} {sp run : Int} (hsd : sd = 0 ∨ sd = 1) (h0 : rgA 0 = 0 ∧ rbA 0 = 0) (h1 : sd = 1 → rz = cn g b ∧ pz = pmm g b ∧ bz = bmm g b le mo ∧ Stl g b le mo rsc rgo rba rgA rbA ple pgr pgo pba pri ble bgr bgo bba bri) :
    ∃ rsc' rgo' rba' rgA' rbA' ple' pgr' pgo' pba' pri' ble' bgr' bgo' bba' bri' run', m_X12_settle N le mo g b sp sd rz rsc rgo rba rgA rbA pz ple pgr pgo pba pri bz ble bgr bgo bba bri run = some (1, cn g b, rsc', rgo', rba', rgA', rbA', pmm g b, ple', pgr', pgo', pba', pri', bmm g b le mo, ble', bgr', bgo', bba', bri', run') ∧ Stl g b le mo rsc' rgo' rba' rgA' rbA' ple' pgr' pgo' pba' pri' ble' bgr' bgo' bba' bri' ∧ ((sd = 1 ∧ run' = run) ∨ (sd = 0 ∧ (sp = 0 ∨ run' = 0))) := by
  have ok2 := ok.2.1
  rcases hsd with rfl | rfl
  · obtain ⟨rsc', rgo', rba', rgA', rbA', e1, e2, e3⟩ := fill_ok (z := rz) (sc := rsc) (go := rgo) (ba := rba) hN ok h0
    obtain ⟨ple', pgr', pgo', pba', pri', f1, f2⟩ := fillPure_ok (z := pz) (le := ple) (gr := pgr) (lgo := pgo) (lba := pba) (ri := pri) hN ok e2
    have hp := pst_Bd ok
    have hpm := hp.1
    obtain ⟨le1, gr1, go1, ba1, ri1, c1, c2⟩ := copy_ok (N := N) (z := bz) (le0 := ble) (gr0 := bgr) (go0 := bgo) (ba0 := bba) (ri0 := bri) ⟨hpm.1, by omega⟩ f2
    obtain ⟨le2, gr2, go2, ba2, ri2, s1, s2, s3⟩ := joinSmall_b5_ok (x := le) hN ok ⟨by omega, by omega⟩ N 1000 (pmm g b) (pst g b) le1 gr1 go1 ba1 ri1 hp c2 (by omega) (by omega)
    have hsm := s3.1
    obtain ⟨le3, gr3, go3, ba3, ri3, j1, j2⟩ := joinMany_b5_ok (x := mo) hN ok hmo N 1000 _ _ le2 gr2 go2 ba2 ri2 s3 s2 (by omega) (by omega)
    have hset : ∀ run', (if sp = 0 then run' = run else run' = 0) → m_X12_settle N le mo g b sp 0 rz rsc rgo rba rgA rbA pz ple pgr pgo pba pri bz ble bgr bgo bba bri run = some (1, cn g b, rsc', rgo', rba', rgA', rbA', pmm g b, ple', pgr', pgo', pba', pri', bmm g b le mo, le3, gr3, go3, ba3, ri3, run') := by
      intro run' hrun
      rw [m_X12_settle]
      refine gd_ok (by first | omega | (constructor <;> omega) | assumption) ?_
      refine ip_ok (rfl) ?_
      refine bd_ok (e1) ?_
      refine bd_ok (f1) ?_
      refine bd_ok (c1) ?_
      refine bd_ok (s1) ?_
      refine bd_ok (j1) ?_
      by_cases c : sp = 0
      · rw [if_pos c] at hrun
        refine ip_ok (c) ?_
        rw [hrun]
        rfl
      · rw [if_neg c] at hrun
        refine in_ok (c) ?_
        rw [m_X10_clear, hrun]
        rfl
    by_cases c : sp = 0
    · exact ⟨rsc', rgo', rba', rgA', rbA', ple', pgr', pgo', pba', pri', le3, gr3, go3, ba3, ri3, run, hset run (if_pos c ▸ rfl), ⟨e2, e3, f2, j2⟩, Or.inr ⟨rfl, Or.inl c⟩⟩
    · exact ⟨rsc', rgo', rba', rgA', rbA', ple', pgr', pgo', pba', pri', le3, gr3, go3, ba3, ri3, 0, hset 0 (if_neg c ▸ rfl), ⟨e2, e3, f2, j2⟩, Or.inr ⟨rfl, Or.inr rfl⟩⟩
  · obtain ⟨q1, q2, q3, q4⟩ := h1 rfl
    refine ⟨rsc, rgo, rba, rgA, rbA, ple, pgr, pgo, pba, pri, ble, bgr, bgo, bba, bri, run, ?_, q4, Or.inl ⟨rfl, rfl⟩⟩
    rw [m_X12_settle, q1, q2, q3]
    refine gd_ok (by first | omega | (constructor <;> omega) | assumption) ?_
    refine in_ok ((by decide)) ?_
    rfl
end
