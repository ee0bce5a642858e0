/-! BANDS: where they begin among the rows -/
def bG (G st : Int → Int) (k : Int) : Int := G (st (k + 1)) - G (st k)
def dl (st : Int → Int) (k : Int) : Int → Int := fun j => if j ≤ k then st j else st (j + 1)
def Bd (n : Int) (st : Int → Int) (m : Int) : Prop := (0 ≤ m ∧ m ≤ n) ∧ st 0 = 0 ∧ st m = n ∧ ∀ k, 0 ≤ k → k < m → st k < st (k + 1)
theorem dl_l {st : Int → Int} {k j : Int} (h : j ≤ k) : dl st k j = st j := if_pos h
theorem dl_r {st : Int → Int} {k j : Int} (h : ¬ j ≤ k) : dl st k j = st (j + 1) := if_neg h
theorem Bd.mono {n m : Int} {st : Int → Int} (h : Bd n st m) {i j : Int} (h0 : 0 ≤ i) (hij : i ≤ j) (hj : j ≤ m) : st i ≤ st j := by
  obtain ⟨k, hk⟩ := Int.le.dest hij
  induction k generalizing j with
  | zero => have : j = i := by omega
            subst this; omega
  | succ k ih =>
    have h1 := ih (j := j - 1) (by omega) (by omega) (by omega)
    have h2 := h.2.2.2 (j - 1) (by omega) (by omega)
    have e : j - 1 + 1 = j := by omega
    rw [e] at h2
    omega
theorem Bd.in_ {n m : Int} {st : Int → Int} (h : Bd n st m) {k : Int} (h0 : 0 ≤ k) (hk : k ≤ m) : 0 ≤ st k ∧ st k ≤ n := by
  have h1 := h.mono (Int.le_refl 0) h0 hk
  have h2 := h.mono h0 hk (Int.le_refl m)
  rw [h.2.1] at h1
  rw [h.2.2.1] at h2
  exact ⟨h1, h2⟩
theorem Bd.dl {n m : Int} {st : Int → Int} (h : Bd n st m) {k : Int} (h0 : 0 ≤ k) (hk : k + 1 < m) : Bd n (dl st k) (m - 1) := by
  obtain ⟨⟨a1, a2⟩, a3, a4, a5⟩ := h
  refine ⟨by omega, by rw [dl_l h0]; exact a3, ?_, fun j j0 j1 => ?_⟩
  · rw [dl_r (by omega)]
    have e : m - 1 + 1 = m := by omega
    rw [e]; exact a4
  · by_cases c1 : j ≤ k
    · rw [dl_l c1]
      by_cases c2 : j + 1 ≤ k
      · rw [dl_l c2]; exact a5 j j0 (by omega)
      · rw [dl_r c2]
        have e1 := a5 j j0 (by omega)
        have e2 := a5 (j + 1) (by omega) (by omega)
        omega
    · rw [dl_r c1, dl_r (by omega)]
      exact a5 (j + 1) (by omega) (by omega)
theorem Bd.b {g b st : Int → Int} {m : Int} (ok : okP g b) (h : Bd (cn g b) st m) {k : Int} (h0 : 0 ≤ k) (hk : k < m) : 0 ≤ bG (cG g b) st k ∧ 0 ≤ bG (cB g b) st k ∧ bG (cG g b) st k + bG (cB g b) st k ≤ 11880 ∧ 0 < bG (cG g b) st k + bG (cB g b) st k := by
  have i1 := h.in_ h0 (by omega)
  have i2 := h.in_ (k := k + 1) (by omega) (by omega)
  have lt := h.2.2.2 k h0 hk
  have e1 := cG_m ok i1.1 (Int.le_of_lt lt) i2.2
  have e2 := cB_m ok i1.1 (Int.le_of_lt lt) i2.2
  have e3 := cG_b ok i2.1 i2.2
  have e4 := cC_d (g := g) (b := b) i1.1 (Int.le_of_lt lt) i2.2
  have e5 := cG_b ok i1.1 i1.2
  unfold bG
  omega
theorem bG_dl_l {G st : Int → Int} {k j : Int} (h : j < k) : bG G (dl st k) j = bG G st j := by
  unfold bG; rw [dl_l (by omega), dl_l (by omega)]
theorem bG_dl_e {G st : Int → Int} {k : Int} : bG G (dl st k) k = bG G st k + bG G st (k + 1) := by
  unfold bG; rw [dl_l (Int.le_refl k), dl_r (by omega)]; omega
theorem bG_dl_r {G st : Int → Int} {k j : Int} (h : k < j) : bG G (dl st k) j = bG G st (j + 1) := by
  unfold bG; rw [dl_r (by omega), dl_r (by omega)]
/-- the rate falls from band k on to the next -/
def fl (G B st : Int → Int) (k : Int) : Prop := bG B st (k + 1) * (bG G st k + bG B st k) < bG B st k * (bG G st (k + 1) + bG B st (k + 1))
def SA (st' st : Int → Int) (m : Int) : Prop := ∀ k, 0 ≤ k → k ≤ m → st' k = st k
theorem wh_b (w : Int) (G B st : Int → Int) (k : Int) : wh w G B (st (k + 1)) - wh w G B (st k) = wh w (bG G st) (bG B st) k := by
  unfold wh bG
  by_cases w0 : w = 0
  · simp only [if_pos w0]
  · by_cases w1 : w = 1
    · simp only [if_neg w0, if_pos w1]
    · simp only [if_neg w0, if_neg w1]; omega
section
variable {N : Nat} {g b sc go ba st st' : Int → Int} {m : Int}
theorem ofBand_ok (hN : 40000 ≤ N) (ok : okP g b) (hr : RwA g b sc go ba) (hb : Bd (cn g b) st m) (hs : SA st' st m) {k w : Int} (h0 : 0 ≤ k) (hk : k < m) (hw : rI w) : m_X13_ofBand N go ba st' k w = some (wh w (bG (cG g b) st) (bG (cB g b) st) k) := by
  have ok2 := ok.2.1
  have hm := hb.1
  have i1 := hb.in_ h0 (by omega)
  have i2 := hb.in_ (k := k + 1) (by omega) (by omega)
  have lt := hb.2.2.2 k h0 hk
  rw [m_X13_ofBand, hs k h0 (by omega), hs (k + 1) (by omega) (by omega)]
  refine gd_ok (by first | omega | (constructor <;> omega) | assumption) ?_
  refine gd_ok (by first | omega | (constructor <;> omega) | assumption) ?_
  refine bd_ok (of_ok hN ok hr ⟨i1.1, Int.le_of_lt lt⟩ i2.2 hw) ?_
  rw [wh_b]
theorem ofBand0 (hN : 40000 ≤ N) (ok : okP g b) (hr : RwA g b sc go ba) (hb : Bd (cn g b) st m) (hs : SA st' st m) {k : Int} (h0 : 0 ≤ k) (hk : k < m) : m_X13_ofBand N go ba st' k 0 = some (bG (cG g b) st k) := ofBand_ok hN ok hr hb hs h0 hk ⟨by decide, by decide⟩
theorem ofBand1 (hN : 40000 ≤ N) (ok : okP g b) (hr : RwA g b sc go ba) (hb : Bd (cn g b) st m) (hs : SA st' st m) {k : Int} (h0 : 0 ≤ k) (hk : k < m) : m_X13_ofBand N go ba st' k 1 = some (bG (cB g b) st k) := ofBand_ok hN ok hr hb hs h0 hk ⟨by decide, by decide⟩
theorem ofBand2 (hN : 40000 ≤ N) (ok : okP g b) (hr : RwA g b sc go ba) (hb : Bd (cn g b) st m) (hs : SA st' st m) {k : Int} (h0 : 0 ≤ k) (hk : k < m) : m_X13_ofBand N go ba st' k 2 = some (bG (cG g b) st k + bG (cB g b) st k) := ofBand_ok hN ok hr hb hs h0 hk ⟨by decide, by decide⟩
theorem joins_b4_ok (hm : m ≤ 60) {k : Int} (k0 : 0 ≤ k) : ∀ (f : Nat) (arr : Int → Int) (y : Int), k + 1 ≤ y → y ≤ m → (m - y).toNat < f → (∀ j, 0 ≤ j → j ≤ m → arr j = if k < j ∧ j < y then st (j + 1) else st j) → ∃ arr', m_X13_joins_b4 N k m f arr y = some (m - 1, arr') ∧ SA arr' (dl st k) (m - 1) := by
  intro f
  induction f with
  | zero => intro arr y _ _ h; omega
  | succ f ih =>
    intro arr y h0 h1 hf h
    rw [m_X13_joins_b4]
    by_cases c1 : m ≤ y
    · refine ⟨arr, ?_, fun j j0 j1 => ?_⟩
      · refine gd_ok (by first | omega | (constructor <;> omega) | assumption) ?_
        refine gd_ok (by first | omega | (constructor <;> omega) | assumption) ?_
        refine ip_ok (c1) ?_
        rfl
      · rw [h j j0 (by omega)]
        by_cases c2 : j ≤ k
        · rw [dl_l c2, if_neg (by omega)]
        · rw [dl_r c2, if_pos (by omega)]
    · obtain ⟨arr', e1, e2⟩ := ih (uP arr y (arr (y + 1))) (y + 1) (by omega) (by omega) (by omega) (fun j j0 j1 => by
        by_cases e : j = y
        · rw [e, uP_s, h (y + 1) (by omega) (by omega), if_neg (by omega), if_pos (by omega)]
        · rw [uP_o _ _ e, h j j0 j1]
          by_cases c3 : k < j ∧ j < y
          · rw [if_pos c3, if_pos (by omega)]
          · rw [if_neg c3, if_neg (by omega)])
      refine ⟨arr', ?_, e2⟩
      refine gd_ok (by first | omega | (constructor <;> omega) | assumption) ?_
      refine gd_ok (by first | omega | (constructor <;> omega) | assumption) ?_
      refine in_ok (c1) ?_
      refine gd_ok (by first | omega | (constructor <;> omega) | assumption) ?_
      refine gd_ok (by first | omega | (constructor <;> omega) | assumption) ?_
      exact e1
theorem joins_ok (hN : 40000 ≤ N) (hm : m ≤ 60) (hs : SA st' st m) {k : Int} (k0 : 0 ≤ k) (hk : k + 1 ≤ m) : ∃ arr', m_X13_joins N m st' k = some (m - 1, arr') ∧ SA arr' (dl st k) (m - 1) :=
  joins_b4_ok hm k0 N st' (k + 1) (Int.le_refl _) hk (by omega) (fun j j0 j1 => by rw [if_neg (by omega)]; exact hs j j0 j1)
theorem isNoLesser_ok (hN : 40000 ≤ N) (ok : okP g b) (hr : RwA g b sc go ba) (hb : Bd (cn g b) st m) (hs : SA st' st m) {k : Int} (h0 : 0 ≤ k) (hk : k + 1 < m) : (fl (cG g b) (cB g b) st k → m_X13_isNoLesser N go ba st' k = some 0) ∧ (¬ fl (cG g b) (cB g b) st k → m_X13_isNoLesser N go ba st' k = some 1) := by
  have b1 := hb.b ok h0 (by omega)
  have b2 := hb.b ok (k := k + 1) (by omega) hk
  have m1 := mul_bd (a := bG (cB g b) st (k + 1)) (b := bG (cG g b) st k + bG (cB g b) st k) (A := 11880) (B := 11880) (by omega) (by omega)
  have m2 := mul_bd (a := bG (cB g b) st k) (b := bG (cG g b) st (k + 1) + bG (cB g b) st (k + 1)) (A := 11880) (B := 11880) (by omega) (by omega)
  unfold fl
  constructor
  · intro h
    rw [m_X13_isNoLesser]
    refine bd_ok (ofBand1 hN ok hr hb hs (by omega) hk) ?_
    refine bd_ok (ofBand2 hN ok hr hb hs h0 (by omega)) ?_
    refine bd_ok (ofBand1 hN ok hr hb hs h0 (by omega)) ?_
    refine bd_ok (ofBand2 hN ok hr hb hs (by omega) hk) ?_
    refine gd_ok (by first | omega | (constructor <;> omega) | assumption) ?_
    refine gd_ok (by first | omega | (constructor <;> omega) | assumption) ?_
    refine ip_ok (h) ?_
    rfl
  · intro h
    rw [m_X13_isNoLesser]
    refine bd_ok (ofBand1 hN ok hr hb hs (by omega) hk) ?_
    refine bd_ok (ofBand2 hN ok hr hb hs h0 (by omega)) ?_
    refine bd_ok (ofBand1 hN ok hr hb hs h0 (by omega)) ?_
    refine bd_ok (ofBand2 hN ok hr hb hs (by omega) hk) ?_
    refine gd_ok (by first | omega | (constructor <;> omega) | assumption) ?_
    refine gd_ok (by first | omega | (constructor <;> omega) | assumption) ?_
    refine in_ok (h) ?_
    rfl
end
/-! bands of falling rates: the first two that don't fall are joined, again and again -/
def fv (G B st : Int → Int) (m k : Int) : Prop := (0 ≤ k ∧ k + 1 < m) ∧ ¬ fl G B st k ∧ ∀ j, 0 ≤ j → j < k → fl G B st j
def nv (G B st : Int → Int) (m : Int) : Prop := ∀ j, 0 ≤ j → j + 1 < m → fl G B st j
def pvK (G B st : Int → Int) (m : Int) : Nat → Int → Int
  | 0, k => k
  | f + 1, k => if k + 1 < m ∧ bG B st (k + 1) * (bG G st k + bG B st k) < bG B st k * (bG G st (k + 1) + bG B st (k + 1)) then pvK G B st m f (k + 1) else k
def pvN (G B : Int → Int) : Nat → (Int → Int) → Int → (Int → Int) × Int
  | 0, st, m => (st, m)
  | f + 1, st, m => if pvK G B st m 1000 0 + 1 < m then pvN G B f (dl st (pvK G B st m 1000 0)) (m - 1) else (st, m)
theorem pvK_fv {G B st : Int → Int} {m k : Int} (h : fv G B st m k) : ∀ (F : Nat) (j : Int), 0 ≤ j → j ≤ k → (k - j).toNat ≤ F → pvK G B st m F j = k := by
  intro F
  induction F with
  | zero => intro j _ _ _; show j = k; omega
  | succ F ih =>
    intro j h0 h1 h2
    rw [pvK]
    by_cases e : j = k
    · subst e
      rw [if_neg (fun c => h.2.1 c.2)]
    · rw [if_pos ⟨by have := h.1.2; omega, h.2.2 j h0 (by omega)⟩]
      exact ih (j + 1) (by omega) (by omega) (by omega)
theorem pvK_nv {G B st : Int → Int} {m : Int} (h : nv G B st m) : ∀ (F : Nat) (j : Int), 0 ≤ j → m ≤ j + 1 + F → m ≤ pvK G B st m F j + 1 := by
  intro F
  induction F with
  | zero => intro j _ h1; show m ≤ j + 1; omega
  | succ F ih =>
    intro j h0 h1
    rw [pvK]
    by_cases c : j + 1 < m
    · rw [if_pos ⟨c, h j h0 c⟩]
      exact ih (j + 1) (by omega) (by omega)
    · rw [if_neg (fun q => c q.1)]
      omega
theorem pvN_fv {G B st : Int → Int} {m k : Int} (f : Nat) (h : fv G B st m k) (hm : m ≤ 1000) : pvN G B (f + 1) st m = pvN G B f (dl st k) (m - 1) := by
  have e := pvK_fv h 1000 0 (Int.le_refl 0) h.1.1 (by have := h.1.2; omega)
  rw [pvN, e, if_pos h.1.2]
theorem pvN_nv {G B st : Int → Int} {m : Int} (f : Nat) (h : nv G B st m) (hm : m ≤ 1000) : pvN G B f st m = (st, m) := by
  cases f with
  | zero => rfl
  | succ f =>
    have e := pvK_nv h 1000 0 (Int.le_refl 0) (by omega)
    rw [pvN, if_neg (by omega)]
theorem nv_or (G B st : Int → Int) (m : Int) : nv G B st m ∨ ∃ k, fv G B st m k := by
  have key : ∀ (F : Nat) (j : Int), 0 ≤ j → m ≤ j + 1 + F → (∀ i, 0 ≤ i → i < j → fl G B st i) → nv G B st m ∨ ∃ k, fv G B st m k := by
    intro F
    induction F with
    | zero => intro j h0 h1 h2; exact Or.inl (fun i i0 i1 => h2 i i0 (by omega))
    | succ F ih =>
      intro j h0 h1 h2
      by_cases c : j + 1 < m
      · by_cases d : fl G B st j
        · refine ih (j + 1) (by omega) (by omega) (fun i i0 i1 => ?_)
          by_cases e : i = j
          · subst e; exact d
          · exact h2 i i0 (by omega)
        · exact Or.inr ⟨j, ⟨h0, c⟩, d, h2⟩
      · exact Or.inl (fun i i0 i1 => h2 i i0 (by omega))
  exact key m.toNat 0 (Int.le_refl 0) (by omega) (fun i i0 i1 => by omega)
section
variable {N : Nat} {g b sc go ba st st' : Int → Int} {m n : Int}
theorem pure_b39_nv (hN : 40000 ≤ N) (ok : okP g b) (hr : RwA g b sc go ba) (hb : Bd (cn g b) st m) (hs : SA st' st m) (hv : nv (cG g b) (cB g b) st m) (k33 : Int → (Int → Int) → Int → Option (Int × (Int → Int))) : ∀ (f : Nat) (y : Int), 0 ≤ y → y ≤ 60 → (m - y).toNat < f → m_X13_laysPure_b39 N n go ba m st' k33 f y = k33 m st' 0 := by
  have ok2 := ok.2.1
  have hm := hb.1
  intro f
  induction f with
  | zero => intro y _ _ h; omega
  | succ f ih =>
    intro y h0 h60 hf
    rw [m_X13_laysPure_b39]
    by_cases c1 : m ≤ y + 1
    · refine gd_ok (by first | omega | (constructor <;> omega) | assumption) ?_
      refine gd_ok (by first | omega | (constructor <;> omega) | assumption) ?_
      refine ip_ok (c1) ?_
      rw [m_X13_laysPure_b63]
      refine gd_ok (by first | omega | (constructor <;> omega) | assumption) ?_
      refine gd_ok (by first | omega | (constructor <;> omega) | assumption) ?_
      refine ip_ok (c1) ?_
      rw [m_X13_laysPure_b78]
      refine gd_ok (by first | omega | (constructor <;> omega) | assumption) ?_
      refine ip_ok (rfl) ?_
      rfl
    · refine gd_ok (by first | omega | (constructor <;> omega) | assumption) ?_
      refine gd_ok (by first | omega | (constructor <;> omega) | assumption) ?_
      refine in_ok (c1) ?_
      refine bd_ok ((isNoLesser_ok hN ok hr hb hs h0 (by omega)).1 (hv y h0 (by omega))) ?_
      refine gd_ok (by first | omega | (constructor <;> omega) | assumption) ?_
      refine ip_ok (rfl) ?_
      exact ih (y + 1) (by omega) (by omega) (by omega)
theorem pure_b39_fv (hN : 40000 ≤ N) (ok : okP g b) (hr : RwA g b sc go ba) (hb : Bd (cn g b) st m) (hs : SA st' st m) {k : Int} (hv : fv (cG g b) (cB g b) st m k) : ∃ arr', SA arr' (dl st k) (m - 1) ∧ ∀ (k33 : Int → (Int → Int) → Int → Option (Int × (Int → Int))) (f : Nat) (y : Int), 0 ≤ y → y ≤ k → (m - y).toNat < f → m_X13_laysPure_b39 N n go ba m st' k33 f y = k33 (m - 1) arr' 1 := by
  have ok2 := ok.2.1
  have hm := hb.1
  obtain ⟨arr', e1, e2⟩ := joins_ok hN (m := m) (by omega) hs hv.1.1 (by have := hv.1.2; omega)
  refine ⟨arr', e2, ?_⟩
  intro k33 f
  have hk := hv.1
  induction f with
  | zero => intro y _ _ h; omega
  | succ f ih =>
    intro y h0 h60 hf
    rw [m_X13_laysPure_b39]
    by_cases c1 : y = k
    · subst c1
      refine gd_ok (by first | omega | (constructor <;> omega) | assumption) ?_
      refine gd_ok (by first | omega | (constructor <;> omega) | assumption) ?_
      refine in_ok (by first | omega | (constructor <;> omega) | assumption) ?_
      refine bd_ok ((isNoLesser_ok hN ok hr hb hs h0 (by omega)).2 hv.2.1) ?_
      refine gd_ok (by first | omega | (constructor <;> omega) | assumption) ?_
      refine in_ok ((by decide)) ?_
      rw [m_X13_laysPure_b63]
      refine gd_ok (by first | omega | (constructor <;> omega) | assumption) ?_
      refine gd_ok (by first | omega | (constructor <;> omega) | assumption) ?_
      refine in_ok (by first | omega | (constructor <;> omega) | assumption) ?_
      rw [m_X13_laysPure_b78]
      refine gd_ok (by first | omega | (constructor <;> omega) | assumption) ?_
      refine in_ok ((by decide)) ?_
      refine bd_ok (e1) ?_
      rfl
    · refine gd_ok (by first | omega | (constructor <;> omega) | assumption) ?_
      refine gd_ok (by first | omega | (constructor <;> omega) | assumption) ?_
      refine in_ok (by first | omega | (constructor <;> omega) | assumption) ?_
      refine bd_ok ((isNoLesser_ok hN ok hr hb hs h0 (by omega)).1 (hv.2.2 y h0 (by omega))) ?_
      refine gd_ok (by first | omega | (constructor <;> omega) | assumption) ?_
      refine ip_ok (rfl) ?_
      exact ih (y + 1) (by omega) (by omega) (by omega)
theorem pure_b33_ok (hN : 40000 ≤ N) (ok : okP g b) (hr : RwA g b sc go ba) : ∀ (f F : Nat) (m : Int) (st st' : Int → Int), Bd (cn g b) st m → SA st' st m → m.toNat + 1 < f → m.toNat ≤ F → ∃ arr', m_X13_laysPure_b33 N n go ba f m st' 1 = some ((pvN (cG g b) (cB g b) F st m).2, arr') ∧ SA arr' (pvN (cG g b) (cB g b) F st m).1 (pvN (cG g b) (cB g b) F st m).2 ∧ Bd (cn g b) (pvN (cG g b) (cB g b) F st m).1 (pvN (cG g b) (cB g b) F st m).2 := by
  have ok2 := ok.2.1
  intro f
  induction f with
  | zero => intro F m st st' _ _ h; omega
  | succ f ih =>
    intro F m st st' hb hs hf hF
    have hm := hb.1
    rw [m_X13_laysPure_b33]
    rcases nv_or (cG g b) (cB g b) st m with hv | ⟨k, hv⟩
    · rw [pvN_nv F hv (by omega)]
      refine ⟨st', ?_, hs, hb⟩
      refine gd_ok (by first | omega | (constructor <;> omega) | assumption) ?_
      refine in_ok ((by decide)) ?_
      rw [pure_b39_nv hN ok hr hb hs hv _ N 0 (Int.le_refl 0) (by omega) (by omega)]
      cases f with
      | zero => omega
      | succ f =>
        rw [m_X13_laysPure_b33]
        refine gd_ok (by first | omega | (constructor <;> omega) | assumption) ?_
        refine ip_ok (rfl) ?_
        rfl
    · obtain ⟨arr', e2, e1⟩ := pure_b39_fv (n := n) hN ok hr hb hs hv
      have hk := hv.1
      cases F with
      | zero => omega
      | succ F =>
        rw [pvN_fv F hv (by omega)]
        obtain ⟨a2, q1, q2, q3⟩ := ih F (m - 1) (dl st k) arr' (hb.dl hk.1 hk.2) e2 (by omega) (by omega)
        refine ⟨a2, ?_, q2, q3⟩
        refine gd_ok (by first | omega | (constructor <;> omega) | assumption) ?_
        refine in_ok ((by decide)) ?_
        rw [e1 _ N 0 (Int.le_refl 0) hk.1 (by omega)]
        exact q1
theorem pure_b10_ok (hn : 0 ≤ n ∧ n ≤ 60) : ∀ (f : Nat) (arr : Int → Int) (y : Int), 0 ≤ y → y ≤ n + 1 → (n + 1 - y).toNat < f → (∀ j, 0 ≤ j → j < y → arr j = j) → ∃ arr', m_X13_laysPure_b10 N n go ba m f arr y = m_X13_laysPure_b33 N n go ba N m arr' 1 ∧ SA arr' (fun k => k) n := by
  intro f
  induction f with
  | zero => intro arr y _ _ h; omega
  | succ f ih =>
    intro arr y h0 h1 hf h
    rw [m_X13_laysPure_b10]
    by_cases c1 : n < y
    · refine ⟨arr, ?_, fun j j0 j1 => h j j0 (by omega)⟩
      refine gd_ok (by first | omega | (constructor <;> omega) | assumption) ?_
      refine gd_ok (by first | omega | (constructor <;> omega) | assumption) ?_
      refine ip_ok (c1) ?_
      rfl
    · obtain ⟨a', e1, e2⟩ := ih (uP arr y y) (y + 1) (by omega) (by omega) (by omega) (fun j j0 j1 => by
        by_cases e : j = y
        · rw [e, uP_s]
        · rw [uP_o _ _ e]; exact h j j0 (by omega))
      refine ⟨a', ?_, e2⟩
      refine gd_ok (by first | omega | (constructor <;> omega) | assumption) ?_
      refine gd_ok (by first | omega | (constructor <;> omega) | assumption) ?_
      refine in_ok (c1) ?_
      refine gd_ok (by first | omega | (constructor <;> omega) | assumption) ?_
      exact e1
end
theorem Bd_id {n : Int} (h : 0 ≤ n) : Bd n (fun k => k) n := ⟨⟨h, Int.le_refl n⟩, rfl, rfl, fun k _ _ => by show k < k + 1; omega⟩
def pst (g b : Int → Int) : Int → Int := (pvN (cG g b) (cB g b) 1000 (fun k => k) (cn g b)).1
def pmm (g b : Int → Int) : Int := (pvN (cG g b) (cB g b) 1000 (fun k => k) (cn g b)).2
theorem laysPure_ok {N : Nat} {g b sc go ba st' : Int → Int} {m : Int} (hN : 40000 ≤ N) (ok : okP g b) (hr : RwA g b sc go ba) : ∃ arr', m_X13_laysPure N (cn g b) go ba m st' = some (pmm g b, arr') ∧ SA arr' (pst g b) (pmm g b) ∧ Bd (cn g b) (pst g b) (pmm g b) := by
  have ok2 := ok.2.1
  have n0 := cn_0 g b
  obtain ⟨a1, e1, e2⟩ := pure_b10_ok (N := N) (go := go) (ba := ba) (m := cn g b) ⟨n0, ok2⟩ N st' 0 (Int.le_refl 0) (by omega) (by omega) (fun j j0 j1 => by omega)
  obtain ⟨a2, q1, q2, q3⟩ := pure_b33_ok (n := cn g b) hN ok hr N 1000 (cn g b) (fun k => k) a1 (Bd_id n0) e2 (by omega) (by omega)
  exact ⟨a2, by rw [m_X13_laysPure, e1]; exact q1, q2, q3⟩
theorem pst_Bd {g b : Int → Int} (ok : okP g b) : Bd (cn g b) (pst g b) (pmm g b) := by
  have hr : RwA g b (cs g b) (cg g b) (cb g b) := fun i _ _ => ⟨rfl, rfl, rfl⟩
  obtain ⟨-, -, -, h⟩ := laysPure_ok (N := 40000) (st' := fun k => k) (m := 0) (Nat.le_refl _) ok hr
  exact h
