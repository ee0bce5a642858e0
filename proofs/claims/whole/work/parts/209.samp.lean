/-! samples: one by one, and by scores -/
def oc (sc ca : Int → Int) (z s : Int) : Int := sI (fun i => if sc i = s then ca i else 0) z
theorem sI_point {W : Int → Int} {a c : Int} {n : Int} (h0 : 0 ≤ n) : sI (fun s => W s * (if a = s then c else 0)) n = if 0 ≤ a ∧ a < n then W a * c else 0 := by
  refine up_ind (P := fun n => sI (fun s => W s * (if a = s then c else 0)) n = if 0 ≤ a ∧ a < n then W a * c else 0) ?_ (fun i h ih => ?_) n h0
  · show (0 : Int) = _
    rw [if_neg (by omega)]
  · show sI (fun s => W s * (if a = s then c else 0)) (i + 1) = if 0 ≤ a ∧ a < i + 1 then W a * c else 0
    rw [sI_s _ h, ih]
    by_cases e : a = i
    · subst e
      rw [if_neg (by omega), if_pos rfl, if_pos (by omega), Int.zero_add]
    · rw [if_neg e, Int.mul_zero, Int.add_zero]
      by_cases d : 0 ≤ a ∧ a < i
      · rw [if_pos d, if_pos (by omega)]
      · rw [if_neg d, if_neg (by omega)]
theorem sI_zero {n : Int} (h0 : 0 ≤ n) : sI (fun _ => 0) n = 0 := by
  refine up_ind (P := fun n => sI (fun _ => 0) n = 0) rfl (fun i h ih => ?_) n h0
  rw [sI_s _ h, ih]
  rfl
theorem oc_sum {W sc ca : Int → Int} {n : Int} (hn : 0 ≤ n) {z : Int} (hz : 0 ≤ z) : (∀ i, 0 ≤ i → i < z → 0 ≤ sc i ∧ sc i < n) → sI (fun s => W s * oc sc ca z s) n = sI (fun i => W (sc i) * ca i) z := by
  refine up_ind (P := fun z => (∀ i, 0 ≤ i → i < z → 0 ≤ sc i ∧ sc i < n) → sI (fun s => W s * oc sc ca z s) n = sI (fun i => W (sc i) * ca i) z) ?_ (fun i h ih => ?_) z hz
  · intro _
    show sI (fun s => W s * 0) n = 0
    exact (sI_congr (fun j _ _ => Int.mul_zero _)).trans (sI_zero hn)
  · intro hs
    rw [sI_s _ h, ← ih (fun j j0 j1 => hs j j0 (by omega))]
    have e : sI (fun s => W s * oc sc ca (i + 1) s) n = sI (fun s => W s * oc sc ca i s + W s * (if sc i = s then ca i else 0)) n := by
      refine sI_congr (fun s _ _ => ?_)
      show W s * oc sc ca (i + 1) s = _
      unfold oc
      rw [sI_s _ h, Int.mul_add]
    rw [e, sI_add _ _ hn, sI_point hn, if_pos (hs i h (by omega))]
def SmR (S : SM) (a : Nat) (p : Int → Int) (x : Int) : Prop := S.1 a = true ∧ (0 ≤ smSize S a ∧ smSize S a ≤ 60) ∧ (∀ i, 0 ≤ i → i < smSize S a → (0 ≤ smScore S a i ∧ smScore S a i < 1000) ∧ 0 ≤ smCases S a i ∧ smCases S a i ≤ 198) ∧ smTotal S a = sI (smCases S a) (smSize S a) ∧ ∀ s, 0 ≤ s → s < 1000 → p (x + s) = oc (smScore S a) (smCases S a) (smSize S a) s
section
variable {N : Nat} {S : SM} {a : Nat} {p : Int → Int} {x : Int}
theorem SmR.tot (h : SmR S a p x) : 0 ≤ smTotal S a ∧ smTotal S a ≤ 11880 := by
  obtain ⟨-, h1, h2, h3, -⟩ := h
  have := sI_ab (K := 198) (fun j j0 j1 => (h2 j j0 j1).2) (Int.le_refl 0) _ h1.1 (Int.le_refl _)
  rw [h3]
  have e : sI (smCases S a) 0 = 0 := rfl
  omega
theorem oc_in {sc ca : Int → Int} {z K : Int} (hz : 0 ≤ z) (h : ∀ i, 0 ≤ i → i < z → 0 ≤ ca i ∧ ca i ≤ K) (hK : 0 ≤ K) (s : Int) : 0 ≤ oc sc ca z s ∧ oc sc ca z s ≤ K * z := by
  have := sI_ab (K := K) (f := fun i => if sc i = s then ca i else 0) (n := z) (fun j j0 j1 => by
    have := h j j0 j1
    by_cases c : sc j = s
    · simp only [if_pos c]; omega
    · simp only [if_neg c]; omega) (Int.le_refl 0) z hz (Int.le_refl _)
  have e : sI (fun i => if sc i = s then ca i else 0) 0 = 0 := rfl
  rw [e, Int.sub_zero, Int.sub_zero] at this
  exact this
theorem SmR.pb (h : SmR S a p x) {s : Int} (s0 : 0 ≤ s) (s1 : s < 1000) : 0 ≤ p (x + s) ∧ p (x + s) ≤ 11880 := by
  obtain ⟨-, h1, h2, -, h4⟩ := h
  have := oc_in (sc := smScore S a) h1.1 (fun j j0 j1 => (h2 j j0 j1).2) (by decide) s
  rw [h4 s s0 s1]
  omega
theorem SmR.sum (h : SmR S a p x) (W : Int → Int) : sI (fun s => W s * p (x + s)) 1000 = sI (fun i => W (smScore S a i) * smCases S a i) (smSize S a) := by
  obtain ⟨-, h1, h2, -, h4⟩ := h
  rw [← oc_sum (W := W) (sc := smScore S a) (ca := smCases S a) (n := 1000) (by decide) h1.1 (fun j j0 j1 => (h2 j j0 j1).1)]
  exact sI_congr (fun s s0 s1 => by rw [h4 s s0 s1])
theorem SmR.all (h : SmR S a p x) : sI (fun s => p (x + s)) 1000 = smTotal S a := by
  have e := h.sum (fun _ => 1)
  rw [h.2.2.2.1]
  simp only [Int.one_mul] at e
  exact e
theorem casesOf_b4_ok {n : Nat} (hx : 0 ≤ x ∧ x + 1000 ≤ n) (hb : ∀ s, 0 ≤ s → s < 1000 → 0 ≤ p (x + s)) : ∀ (f : Nat) (y2 y3 : Int), 0 ≤ y3 → y3 ≤ 1000 → (1000 - y3).toNat < f → y2 = sI (fun s => p (x + s)) y3 → m_X13_casesOf_b4 N p n x f y2 y3 = some (sI (fun s => p (x + s)) 1000) := by
  intro f
  induction f with
  | zero => intro y2 y3 _ _ h; omega
  | succ f ih =>
    intro y2 y3 h0 h1 hf h
    rw [m_X13_casesOf_b4]
    by_cases c : 1000 ≤ y3
    · have e : y3 = 1000 := by omega
      subst e
      refine gd_ok (by first | omega | (constructor <;> omega) | assumption) ?_
      refine ip_ok (c) ?_
      rw [h]
    · refine gd_ok (by first | omega | (constructor <;> omega) | assumption) ?_
      refine in_ok (c) ?_
      refine gd_ok (by first | omega | (constructor <;> omega) | assumption) ?_
      exact ih _ (y3 + 1) (by omega) (by omega) (by omega) (by rw [sI_s _ h0, h])
theorem casesOf_ok (hN : 40000 ≤ N) {n : Nat} (hx : 0 ≤ x ∧ x + 1000 ≤ n) (h : SmR S a p x) : m_X13_casesOf N p n x = some (smTotal S a) := by
  rw [m_X13_casesOf, casesOf_b4_ok hx (fun s s0 s1 => (h.pb s0 s1).1) N 0 0 (Int.le_refl 0) (by decide) (by omega) rfl, h.all]
theorem jfill_b5_ok {n : Nat} (hn : n ≤ 1000) {v : Int} : ∀ (f : Nat) (q : Int → Int) (y : Int), 0 ≤ y → y ≤ n → ((n : Int) - y).toNat < f → (∀ k, 0 ≤ k → k < y → q k = v) → ∃ q', m_J7_fill_53178_b5 N n v (n : Int) f q y = some q' ∧ ∀ k, 0 ≤ k → k < (n : Int) → q' k = v := by
  intro f
  induction f with
  | zero => intro q y _ _ h; omega
  | succ f ih =>
    intro q y h0 h1 hf h
    rw [m_J7_fill_53178_b5]
    by_cases c : (n : Int) ≤ y
    · refine ⟨q, ?_, fun k k0 k1 => h k k0 (by omega)⟩
      refine gd_ok (by first | omega | (constructor <;> omega) | assumption) ?_
      refine gd_ok (by first | omega | (constructor <;> omega) | assumption) ?_
      refine ip_ok (c) ?_
      rfl
    · obtain ⟨q', e1, e2⟩ := ih (uP q y v) (y + 1) (by omega) (by omega) (by omega) (fun k k0 k1 => by
        by_cases e : k = y
        · rw [e, uP_s]
        · rw [uP_o _ _ e]; exact h k k0 (by omega))
      refine ⟨q', ?_, e2⟩
      refine gd_ok (by first | omega | (constructor <;> omega) | assumption) ?_
      refine gd_ok (by first | omega | (constructor <;> omega) | assumption) ?_
      refine in_ok (c) ?_
      refine gd_ok (by first | omega | (constructor <;> omega) | assumption) ?_
      exact e1
theorem jfill_ok (hN : 40000 ≤ N) {n : Nat} (hn : n ≤ 1000) {v : Int} {q : Int → Int} : ∃ q', m_J7_fill_53178 N n q v = some q' ∧ ∀ k, 0 ≤ k → k < (n : Int) → q' k = v :=
  jfill_b5_ok hn N q 0 (Int.le_refl 0) (by omega) (by omega) (fun k k0 k1 => by omega)
end
/-- cases of a sample that lie in a band -/
def inb (s0 st : Int → Int) (m : Int) (S : SM) (a : Nat) (k : Int) : Int := sI (fun i => if bAt s0 st m (smScore S a i) = k then smCases S a i else 0) (smSize S a)
section
variable {N : Nat} {S : SM} {a : Nat} {p : Int → Int} {x : Int} {g b st le gr go ba ri : Int → Int} {m : Int}
theorem inb_in (h : SmR S a p x) (s0 st : Int → Int) (m k : Int) : 0 ≤ inb s0 st m S a k ∧ inb s0 st m S a k ≤ 11880 := by
  obtain ⟨-, h1, h2, -, -⟩ := h
  have := sI_ab (K := 198) (f := fun i => if bAt s0 st m (smScore S a i) = k then smCases S a i else 0) (n := smSize S a) (fun j j0 j1 => by
    have := h2 j j0 j1
    by_cases c : bAt s0 st m (smScore S a j) = k
    · simp only [if_pos c]; omega
    · simp only [if_neg c]; omega) (Int.le_refl 0) _ h1.1 (Int.le_refl _)
  have e : sI (fun i => if bAt s0 st m (smScore S a i) = k then smCases S a i else 0) 0 = 0 := rfl
  unfold inb
  omega
theorem spread_b10_ok (hN : 40000 ≤ N) (ok : okP g b) (hb : Bd (cn g b) st m) (hL : Lad (cs g b) (cG g b) (cB g b) st m le gr go ba ri) (h : SmR S a p x) : ∀ (f : Nat) (q : Int → Int) (y : Int), 0 ≤ y → y ≤ smSize S a → (smSize S a - y).toNat < f → (∀ k, 0 ≤ k → k < 60 → q k = sI (fun i => if bAt (cs g b) st m (smScore S a i) = k then smCases S a i else 0) y) → ∃ q', m_X12_spreadOf_b10 N S m le a f q y = some q' ∧ ∀ k, 0 ≤ k → k < 60 → q' k = inb (cs g b) st m S a k := by
  obtain ⟨h1, h2, h3, -, -⟩ := h
  have ok2 := ok.2.1
  have hm := hb.1
  intro f
  induction f with
  | zero => intro q y _ _ h; omega
  | succ f ih =>
    intro q y y0 y1 hf hq
    rw [m_X12_spreadOf_b10]
    by_cases c : smSize S a ≤ y
    · have e : y = smSize S a := by omega
      refine ⟨q, ?_, fun k k0 k1 => ?_⟩
      · refine gd_ok (by first | omega | (constructor <;> omega) | assumption) ?_
        refine gd_ok (by first | omega | (constructor <;> omega) | assumption) ?_
        refine gd_ok (by first | omega | (constructor <;> omega) | assumption) ?_
        refine ip_ok (c) ?_
        rfl
      · rw [hq k k0 k1, e]; rfl
    · have hs := h3 y y0 (by omega)
      have bi := bAt_in (cs g b) st (smScore S a y) hm.1
      have hmz : m = 0 → bAt (cs g b) st m (smScore S a y) = -1 := fun e => if_pos e
      by_cases d : bAt (cs g b) st m (smScore S a y) < 0
      · obtain ⟨q', e1, e2⟩ := ih q (y + 1) (by omega) (by omega) (by omega) (fun k k0 k1 => by
          rw [sI_s _ y0, hq k k0 k1]
          simp only [if_neg (show ¬ bAt (cs g b) st m (smScore S a y) = k by omega)]
          omega)
        refine ⟨q', ?_, e2⟩
        refine gd_ok (by first | omega | (constructor <;> omega) | assumption) ?_
        refine gd_ok (by first | omega | (constructor <;> omega) | assumption) ?_
        refine gd_ok (by first | omega | (constructor <;> omega) | assumption) ?_
        refine in_ok (c) ?_
        refine gd_ok (by first | omega | (constructor <;> omega) | assumption) ?_
        refine bd_ok (place_ok hN ok hb hL ⟨by omega, by omega⟩) ?_
        refine gd_ok (by first | omega | (constructor <;> omega) | assumption) ?_
        refine ip_ok (d) ?_
        rw [m_X12_spreadOf_b51]
        exact e1
      · obtain ⟨q', e1, e2⟩ := ih (uP q (bAt (cs g b) st m (smScore S a y)) (q (bAt (cs g b) st m (smScore S a y)) + smCases S a y)) (y + 1) (by omega) (by omega) (by omega) (fun k k0 k1 => by
          rw [sI_s _ y0]
          by_cases e : bAt (cs g b) st m (smScore S a y) = k
          · rw [← e, uP_s, hq _ (by omega) (by omega)]
            simp only [if_true]
          · rw [uP_o _ _ (fun z => e z.symm), hq k k0 k1]
            simp only [if_neg e]
            omega)
        refine ⟨q', ?_, e2⟩
        refine gd_ok (by first | omega | (constructor <;> omega) | assumption) ?_
        refine gd_ok (by first | omega | (constructor <;> omega) | assumption) ?_
        refine gd_ok (by first | omega | (constructor <;> omega) | assumption) ?_
        refine in_ok (c) ?_
        refine gd_ok (by first | omega | (constructor <;> omega) | assumption) ?_
        refine bd_ok (place_ok hN ok hb hL ⟨by omega, by omega⟩) ?_
        refine gd_ok (by first | omega | (constructor <;> omega) | assumption) ?_
        refine in_ok (d) ?_
        refine gd_ok (by first | omega | (constructor <;> omega) | assumption) ?_
        rw [m_X12_spreadOf_b51]
        exact e1
theorem spreadOf_ok (hN : 40000 ≤ N) (ok : okP g b) (hb : Bd (cn g b) st m) (hL : Lad (cs g b) (cG g b) (cB g b) st m le gr go ba ri) (h : SmR S a p x) {q : Int → Int} : ∃ q', m_X12_spreadOf N S m le q a = some q' ∧ ∀ k, 0 ≤ k → k < 60 → q' k = inb (cs g b) st m S a k := by
  obtain ⟨q1, e1, e2⟩ := jfill_ok (N := N) hN (n := 60) (by decide) (v := 0) (q := q)
  have hz := h.2.1
  obtain ⟨q2, f1, f2⟩ := spread_b10_ok hN ok hb hL h N q1 0 (Int.le_refl 0) hz.1 (by omega) (fun k k0 k1 => by rw [e2 k k0 (by omega)]; rfl)
  refine ⟨q2, ?_, f2⟩
  rw [m_X12_spreadOf]
  refine bd_ok (e1) ?_
  exact f1
theorem casesIn_ok (hN : 40000 ≤ N) (ok : okP g b) (hb : Bd (cn g b) st m) (hL : Lad (cs g b) (cG g b) (cB g b) st m le gr go ba ri) (h : SmR S a p x) {q : Int → Int} {k : Int} (k0 : 0 ≤ k) (k1 : k < m) : ∃ q', m_X12_casesIn N S m le q a k = some (inb (cs g b) st m S a k, q') := by
  have ok2 := ok.2.1
  have hm := hb.1
  obtain ⟨q', e1, e2⟩ := spreadOf_ok hN ok hb hL h (q := q)
  refine ⟨q', ?_⟩
  rw [m_X12_casesIn]
  refine bd_ok (e1) ?_
  refine gd_ok (by first | omega | (constructor <;> omega) | assumption) ?_
  rw [e2 k k0 (by omega)]
theorem inb_sum (h : SmR S a p x) (s0 st : Int → Int) (m k : Int) : sI (fun s => if bAt s0 st m s = k then p (x + s) else 0) 1000 = inb s0 st m S a k := by
  have e := h.sum (fun s => if bAt s0 st m s = k then 1 else 0)
  have e1 : sI (fun s => if bAt s0 st m s = k then p (x + s) else 0) 1000 = sI (fun s => (if bAt s0 st m s = k then 1 else 0) * p (x + s)) 1000 := sI_congr (fun s _ _ => by
    by_cases c : bAt s0 st m s = k
    · simp only [if_pos c, Int.one_mul]
    · simp only [if_neg c, Int.zero_mul])
  rw [e1, e]
  unfold inb
  refine sI_congr (fun i _ _ => ?_)
  by_cases c : bAt s0 st m (smScore S a i) = k
  · simp only [if_pos c, Int.one_mul]
  · simp only [if_neg c, Int.zero_mul]
theorem inBand_s_b6_ok (hN : 40000 ≤ N) (ok : okP g b) {sc go ba st' : Int → Int} (hr : RwA g b sc go ba) (hb : Bd (cn g b) st m) (hs : SA st' st m) (h : SmR S a p x) (hx : 0 ≤ x ∧ x + 1000 ≤ 1000) {k : Int} (hk : rI k) : ∀ (f : Nat) (y4 y5 : Int), 0 ≤ y5 → y5 ≤ 1000 → (1000 - y5).toNat < f → y4 = sI (fun s => if bAt (cs g b) st m s = k then p (x + s) else 0) y5 → m_X13_inBand_s_b6 N m p sc st' x k f y4 y5 = some (inb (cs g b) st m S a k) := by
  have ok2 := ok.2.1
  have hm := hb.1
  intro f
  induction f with
  | zero => intro y4 y5 _ _ h; omega
  | succ f ih =>
    intro y4 y5 h0 h1 hf hy
    rw [m_X13_inBand_s_b6]
    by_cases c : 1000 ≤ y5
    · have e : y5 = 1000 := by omega
      subst e
      refine gd_ok (by first | omega | (constructor <;> omega) | assumption) ?_
      refine ip_ok (c) ?_
      rw [hy, inb_sum h]
    · have hp := h.pb h0 (by omega)
      have bi := bAt_in (cs g b) st y5 hm.1
      have hmz : m = 0 → bAt (cs g b) st m y5 = -1 := fun e => if_pos e
      by_cases d : p (x + y5) ≤ 0
      · refine gd_ok (by first | omega | (constructor <;> omega) | assumption) ?_
        refine in_ok (c) ?_
        refine gd_ok (by first | omega | (constructor <;> omega) | assumption) ?_
        refine gd_ok (by first | omega | (constructor <;> omega) | assumption) ?_
        refine ip_ok (d) ?_
        rw [m_X13_inBand_s_b44, m_X13_inBand_s_b45]
        refine ih _ (y5 + 1) (by omega) (by omega) (by omega) ?_
        rw [sI_s _ h0, hy]
        by_cases e : bAt (cs g b) st m y5 = k
        · simp only [if_pos e]; omega
        · simp only [if_neg e]
      · by_cases e : bAt (cs g b) st m y5 = k
        · refine gd_ok (by first | omega | (constructor <;> omega) | assumption) ?_
          refine in_ok (c) ?_
          refine gd_ok (by first | omega | (constructor <;> omega) | assumption) ?_
          refine gd_ok (by first | omega | (constructor <;> omega) | assumption) ?_
          refine in_ok (d) ?_
          refine bd_ok (bandAt_ok hN ok hr hb hs ⟨by omega, by omega⟩) ?_
          refine gd_ok (by first | omega | (constructor <;> omega) | assumption) ?_
          refine gd_ok (by first | omega | (constructor <;> omega) | assumption) ?_
          refine ip_ok (e) ?_
          rw [m_X13_inBand_s_b45]
          refine ih _ (y5 + 1) (by omega) (by omega) (by omega) ?_
          rw [sI_s _ h0, hy]
          simp only [if_pos e]
        · refine gd_ok (by first | omega | (constructor <;> omega) | assumption) ?_
          refine in_ok (c) ?_
          refine gd_ok (by first | omega | (constructor <;> omega) | assumption) ?_
          refine gd_ok (by first | omega | (constructor <;> omega) | assumption) ?_
          refine in_ok (d) ?_
          refine bd_ok (bandAt_ok hN ok hr hb hs ⟨by omega, by omega⟩) ?_
          refine gd_ok (by first | omega | (constructor <;> omega) | assumption) ?_
          refine gd_ok (by first | omega | (constructor <;> omega) | assumption) ?_
          refine in_ok (e) ?_
          rw [m_X13_inBand_s_b44, m_X13_inBand_s_b45]
          refine ih _ (y5 + 1) (by omega) (by omega) (by omega) ?_
          rw [sI_s _ h0, hy]
          simp only [if_neg e]
theorem inBand_s_ok (hN : 40000 ≤ N) (ok : okP g b) {sc go ba st' : Int → Int} (hr : RwA g b sc go ba) (hb : Bd (cn g b) st m) (hs : SA st' st m) (h : SmR S a p x) (hx : 0 ≤ x ∧ x + 1000 ≤ 1000) {k : Int} (hk : rI k) : m_X13_inBand_s N m p sc st' x k = some (inb (cs g b) st m S a k) :=
  inBand_s_b6_ok hN ok hr hb hs h hx hk N 0 0 (Int.le_refl 0) (by decide) (by omega) rfl
theorem inBand_m_b6_ok (hN : 40000 ≤ N) (ok : okP g b) {sc go ba st' : Int → Int} (hr : RwA g b sc go ba) (hb : Bd (cn g b) st m) (hs : SA st' st m) (h : SmR S a p x) (hx : 0 ≤ x ∧ x + 1000 ≤ 12000) {k : Int} (hk : rI k) : ∀ (f : Nat) (y4 y5 : Int), 0 ≤ y5 → y5 ≤ 1000 → (1000 - y5).toNat < f → y4 = sI (fun s => if bAt (cs g b) st m s = k then p (x + s) else 0) y5 → m_X13_inBand_m_b6 N m p sc st' x k f y4 y5 = some (inb (cs g b) st m S a k) := by
  have ok2 := ok.2.1
  have hm := hb.1
  intro f
  induction f with
  | zero => intro y4 y5 _ _ h; omega
  | succ f ih =>
    intro y4 y5 h0 h1 hf hy
    rw [m_X13_inBand_m_b6]
    by_cases c : 1000 ≤ y5
    · have e : y5 = 1000 := by omega
      subst e
      refine gd_ok (by first | omega | (constructor <;> omega) | assumption) ?_
      refine ip_ok (c) ?_
      rw [hy, inb_sum h]
    · have hp := h.pb h0 (by omega)
      have bi := bAt_in (cs g b) st y5 hm.1
      have hmz : m = 0 → bAt (cs g b) st m y5 = -1 := fun e => if_pos e
      by_cases d : p (x + y5) ≤ 0
      · refine gd_ok (by first | omega | (constructor <;> omega) | assumption) ?_
        refine in_ok (c) ?_
        refine gd_ok (by first | omega | (constructor <;> omega) | assumption) ?_
        refine gd_ok (by first | omega | (constructor <;> omega) | assumption) ?_
        refine ip_ok (d) ?_
        rw [m_X13_inBand_m_b44, m_X13_inBand_m_b45]
        refine ih _ (y5 + 1) (by omega) (by omega) (by omega) ?_
        rw [sI_s _ h0, hy]
        by_cases e : bAt (cs g b) st m y5 = k
        · simp only [if_pos e]; omega
        · simp only [if_neg e]
      · by_cases e : bAt (cs g b) st m y5 = k
        · refine gd_ok (by first | omega | (constructor <;> omega) | assumption) ?_
          refine in_ok (c) ?_
          refine gd_ok (by first | omega | (constructor <;> omega) | assumption) ?_
          refine gd_ok (by first | omega | (constructor <;> omega) | assumption) ?_
          refine in_ok (d) ?_
          refine bd_ok (bandAt_ok hN ok hr hb hs ⟨by omega, by omega⟩) ?_
          refine gd_ok (by first | omega | (constructor <;> omega) | assumption) ?_
          refine gd_ok (by first | omega | (constructor <;> omega) | assumption) ?_
          refine ip_ok (e) ?_
          rw [m_X13_inBand_m_b45]
          refine ih _ (y5 + 1) (by omega) (by omega) (by omega) ?_
          rw [sI_s _ h0, hy]
          simp only [if_pos e]
        · refine gd_ok (by first | omega | (constructor <;> omega) | assumption) ?_
          refine in_ok (c) ?_
          refine gd_ok (by first | omega | (constructor <;> omega) | assumption) ?_
          refine gd_ok (by first | omega | (constructor <;> omega) | assumption) ?_
          refine in_ok (d) ?_
          refine bd_ok (bandAt_ok hN ok hr hb hs ⟨by omega, by omega⟩) ?_
          refine gd_ok (by first | omega | (constructor <;> omega) | assumption) ?_
          refine gd_ok (by first | omega | (constructor <;> omega) | assumption) ?_
          refine in_ok (e) ?_
          rw [m_X13_inBand_m_b44, m_X13_inBand_m_b45]
          refine ih _ (y5 + 1) (by omega) (by omega) (by omega) ?_
          rw [sI_s _ h0, hy]
          simp only [if_neg e]
theorem inBand_m_ok (hN : 40000 ≤ N) (ok : okP g b) {sc go ba st' : Int → Int} (hr : RwA g b sc go ba) (hb : Bd (cn g b) st m) (hs : SA st' st m) (h : SmR S a p x) (hx : 0 ≤ x ∧ x + 1000 ≤ 12000) {k : Int} (hk : rI k) : m_X13_inBand_m N m p sc st' x k = some (inb (cs g b) st m S a k) :=
  inBand_m_b6_ok hN ok hr hb hs h hx hk N 0 0 (Int.le_refl 0) (by decide) (by omega) rfl
end
