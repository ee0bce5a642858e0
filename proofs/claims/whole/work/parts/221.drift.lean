/-! drift, months -/
section
variable {N : Nat} {S : SM} {a : Nat} {p : Int → Int} {x : Int} {g b st le gr go ba ri gA bA q : Int → Int} {m : Int}
/-- how far a band is off -/
def offB (g b st : Int → Int) (m : Int) (S : SM) (a : Nat) (k : Int) : Int := iabs (bC (cG g b) (cB g b) st k * smTotal S a - inb (cs g b) st m S a k * (cG g b (cn g b) + cB g b (cn g b)))
theorem off_d (ok : okP g b) (hb : Bd (cn g b) st m) (h : SmR S a p x) {k : Int} (k0 : 0 ≤ k) (k1 : k < m) : -141134400 ≤ bC (cG g b) (cB g b) st k * smTotal S a - inb (cs g b) st m S a k * (cG g b (cn g b) + cB g b (cn g b)) ∧ bC (cG g b) (cB g b) st k * smTotal S a - inb (cs g b) st m S a k * (cG g b (cn g b) + cB g b (cn g b)) ≤ 141134400 := by
  have c := hb.c ok k0 k1
  have t := h.tot
  have i := inb_in h (cs g b) st m k
  have n := C_b ok (cn_0 g b) (Int.le_refl _)
  have m1 := mul_bd (a := bC (cG g b) (cB g b) st k) (b := smTotal S a) (A := 11880) (B := 11880) (by omega) (by omega)
  have m2 := mul_bd (a := inb (cs g b) st m S a k) (b := cG g b (cn g b) + cB g b (cn g b)) (A := 11880) (B := 11880) (by omega) (by omega)
  omega
theorem off_in (ok : okP g b) (hb : Bd (cn g b) st m) (h : SmR S a p x) {k : Int} (k0 : 0 ≤ k) (k1 : k < m) : 0 ≤ offB g b st m S a k ∧ offB g b st m S a k ≤ 141134400 := iabs_le (off_d ok hb h k0 k1)
theorem bandOff_ok (ok : okP g b) (hb : Bd (cn g b) st m) (hL : Lad (cs g b) (cG g b) (cB g b) st m le gr go ba ri) (hA : AhA g b gA bA) (h : SmR S a p x) (hq : ∀ k, 0 ≤ k → k < 60 → q k = inb (cs g b) st m S a k) {k : Int} (k0 : 0 ≤ k) (k1 : k < m) : m_X12_bandOff N S (cn g b) gA bA go ba q a k = some (offB g b st m S a k) := by
  have ok2 := ok.2.1
  have hm := hb.1
  have c := hb.c ok k0 k1
  have t := h.tot
  have i := inb_in h (cs g b) st m k
  have n := C_b ok (cn_0 g b) (Int.le_refl _)
  have d := off_d ok hb h k0 k1
  have h1 := h.1
  rw [m_X12_bandOff, hq k k0 (by omega)]
  repeat (first | (with_reducible refine gd_ok ?_ ?_; focus (first | omega | assumption | ((repeat' refine And.intro ?_ ?_) <;> first | omega | assumption) | fail)) | (with_reducible refine ip_ok ?_ ?_; focus (first | omega | assumption | ((repeat' refine And.intro ?_ ?_) <;> first | omega | assumption) | fail)) | (with_reducible refine in_ok ?_ ?_; focus (first | omega | assumption | ((repeat' refine And.intro ?_ ?_) <;> first | omega | assumption) | fail)) | (rw [casesC ok hb hL k0 k1, so_bd]; try dsimp only) | (rw [rcases_ok ok hA, so_bd]; try dsimp only) | (rw [so_bd]; try dsimp only))
  all_goals rfl
def drA (g b st : Int → Int) (m : Int) (S : SM) (a : Nat) (k : Int) : Int := sI (offB g b st m S a) k
theorem drA_in (ok : okP g b) (hb : Bd (cn g b) st m) (h : SmR S a p x) {k : Int} (k0 : 0 ≤ k) (k1 : k ≤ m) : 0 ≤ drA g b st m S a k ∧ drA g b st m S a k ≤ 8468064000 := by
  have ok2 := ok.2.1
  have hm := hb.1
  have q := sI_ab (K := 141134400) (f := offB g b st m S a) (n := m) (fun j j0 j1 => off_in ok hb h j0 j1) (Int.le_refl 0) k k0 k1
  have e : sI (offB g b st m S a) 0 = 0 := rfl
  rw [e] at q
  unfold drA
  omega
theorem driftAbove_ok (hN : 40000 ≤ N) (ok : okP g b) (hb : Bd (cn g b) st m) (hL : Lad (cs g b) (cG g b) (cB g b) st m le gr go ba ri) (hA : AhA g b gA bA) (h : SmR S a p x) : ∃ q', m_X12_driftAbove N S (cn g b) gA bA m le go ba q a = some (drA g b st m S a m, q') := by
  have ok2 := ok.2.1
  have hm := hb.1
  obtain ⟨q1, e1, e2⟩ := spreadOf_ok hN ok hb hL h (q := q)
  have lp : ∀ (f : Nat) (y2 y4 : Int), 0 ≤ y4 → y4 ≤ m → y2 = drA g b st m S a y4 → (m - y4).toNat < f → m_X12_driftAbove_b10 N S (cn g b) gA bA m le go ba a q1 f y2 y4 = some (drA g b st m S a m, q1) := by
    intro f
    induction f with
    | zero => intro y2 y4 _ _ _ h; omega
    | succ f ih =>
      intro y2 y4 h0 h1 hy hf
      rw [m_X12_driftAbove_b10]
      by_cases c : m ≤ y4
      · repeat (first | (with_reducible refine gd_ok ?_ ?_; focus (first | omega | assumption | ((repeat' refine And.intro ?_ ?_) <;> first | omega | assumption) | fail)) | (with_reducible refine ip_ok ?_ ?_; focus (first | omega | assumption | ((repeat' refine And.intro ?_ ?_) <;> first | omega | assumption) | fail)) | (with_reducible refine in_ok ?_ ?_; focus (first | omega | assumption | ((repeat' refine And.intro ?_ ?_) <;> first | omega | assumption) | fail)) | (rw [so_bd]; try dsimp only))
        rw [hy, show y4 = m by omega]
      · repeat (first | (with_reducible refine gd_ok ?_ ?_; focus (first | omega | assumption | ((repeat' refine And.intro ?_ ?_) <;> first | omega | assumption) | fail)) | (with_reducible refine ip_ok ?_ ?_; focus (first | omega | assumption | ((repeat' refine And.intro ?_ ?_) <;> first | omega | assumption) | fail)) | (with_reducible refine in_ok ?_ ?_; focus (first | omega | assumption | ((repeat' refine And.intro ?_ ?_) <;> first | omega | assumption) | fail)) | (rw [bandOff_ok ok hb hL hA h e2 h0 (by omega), so_bd]; try dsimp only) | (rw [so_bd]; try dsimp only))
        exact ih _ (y4 + 1) (by omega) (by omega) (by rw [hy]; exact (sI_s _ h0).symm) (by omega)
  refine ⟨q1, ?_⟩
  rw [m_X12_driftAbove]
  repeat (first | (with_reducible refine gd_ok ?_ ?_; focus (first | omega | assumption | ((repeat' refine And.intro ?_ ?_) <;> first | omega | assumption) | fail)) | (with_reducible refine ip_ok ?_ ?_; focus (first | omega | assumption | ((repeat' refine And.intro ?_ ?_) <;> first | omega | assumption) | fail)) | (with_reducible refine in_ok ?_ ?_; focus (first | omega | assumption | ((repeat' refine And.intro ?_ ?_) <;> first | omega | assumption) | fail)) | (rw [e1, so_bd]; try dsimp only) | (rw [so_bd]; try dsimp only))
  exact lp N 0 0 (Int.le_refl 0) hm.1 rfl (by omega)
theorem driftBelow_ok (ok : okP g b) (hA : AhA g b gA bA) (h : SmR S a p x) : m_X12_driftBelow N S (cn g b) gA bA a = some ((cG g b (cn g b) + cB g b (cn g b)) * smTotal S a) := by
  have n := C_b ok (cn_0 g b) (Int.le_refl _)
  have t := h.tot
  have h1 := h.1
  rw [m_X12_driftBelow]
  repeat (first | (with_reducible refine gd_ok ?_ ?_; focus (first | omega | assumption | ((repeat' refine And.intro ?_ ?_) <;> first | omega | assumption) | fail)) | (with_reducible refine ip_ok ?_ ?_; focus (first | omega | assumption | ((repeat' refine And.intro ?_ ?_) <;> first | omega | assumption) | fail)) | (with_reducible refine in_ok ?_ ?_; focus (first | omega | assumption | ((repeat' refine And.intro ?_ ?_) <;> first | omega | assumption) | fail)) | (rw [rcases_ok ok hA, so_bd]; try dsimp only) | (rw [so_bd]; try dsimp only))
  all_goals rfl
theorem farBand_ok (hN : 40000 ≤ N) (ok : okP g b) (hb : Bd (cn g b) st m) (hm1 : 1 ≤ m) (hL : Lad (cs g b) (cG g b) (cB g b) st m le gr go ba ri) (hA : AhA g b gA bA) (h : SmR S a p x) : ∃ q', m_X12_farthestBand N S (cn g b) gA bA m le go ba q a = some (am (fun k => - offB g b st m S a k) (m - 1).toNat, q') := by
  have ok2 := ok.2.1
  have hm := hb.1
  obtain ⟨q1, e1, e2⟩ := spreadOf_ok hN ok hb hL h (q := q)
  have lp : ∀ (f n : Nat) (y1 y2 : Int), y1 = am (fun i => - offB g b st m S a i) n → y2 = (n : Int) + 1 → y2 ≤ m → (m - y2).toNat < f → m_X12_farthestBand_b9 N S (cn g b) gA bA m le go ba a q1 f y1 y2 = some (am (fun k => - offB g b st m S a k) (m - 1).toNat, q1) := by
    intro f
    induction f with
    | zero => intro n y1 y2 _ _ _ h; omega
    | succ f ih =>
      intro n y1 y2 h1 h2 h3 hf
      have ai := am_in (fun i => - offB g b st m S a i) n
      rw [m_X12_farthestBand_b9]
      by_cases c : m ≤ y2
      · repeat (first | (with_reducible refine gd_ok ?_ ?_; focus (first | omega | assumption | ((repeat' refine And.intro ?_ ?_) <;> first | omega | assumption) | fail)) | (with_reducible refine ip_ok ?_ ?_; focus (first | omega | assumption | ((repeat' refine And.intro ?_ ?_) <;> first | omega | assumption) | fail)) | (with_reducible refine in_ok ?_ ?_; focus (first | omega | assumption | ((repeat' refine And.intro ?_ ?_) <;> first | omega | assumption) | fail)) | (rw [so_bd]; try dsimp only))
        rw [h1, show (m - 1).toNat = n by omega]
      · have q1' := off_in ok hb h (k := y1) (by omega) (by omega)
        have q2' := off_in ok hb h (k := y2) (by omega) (by omega)
        have es : am (fun i => - offB g b st m S a i) (n + 1) = if - offB g b st m S a y2 < - offB g b st m S a y1 then y2 else y1 := by rw [h1, h2]; rfl
        by_cases d : offB g b st m S a y2 ≤ offB g b st m S a y1
        · repeat (first | (with_reducible refine gd_ok ?_ ?_; focus (first | omega | assumption | ((repeat' refine And.intro ?_ ?_) <;> first | omega | assumption) | fail)) | (with_reducible refine ip_ok ?_ ?_; focus (first | omega | assumption | ((repeat' refine And.intro ?_ ?_) <;> first | omega | assumption) | fail)) | (with_reducible refine in_ok ?_ ?_; focus (first | omega | assumption | ((repeat' refine And.intro ?_ ?_) <;> first | omega | assumption) | fail)) | (rw [bandOff_ok ok hb hL hA h e2 (k := y2) (by omega) (by omega), so_bd]; try dsimp only) | (rw [bandOff_ok ok hb hL hA h e2 (k := y1) (by omega) (by omega), so_bd]; try dsimp only) | (rw [so_bd]; try dsimp only))
          exact ih (n + 1) y1 (y2 + 1) (by rw [es, if_neg (by omega)]) (by omega) (by omega) (by omega)
        · repeat (first | (with_reducible refine gd_ok ?_ ?_; focus (first | omega | assumption | ((repeat' refine And.intro ?_ ?_) <;> first | omega | assumption) | fail)) | (with_reducible refine ip_ok ?_ ?_; focus (first | omega | assumption | ((repeat' refine And.intro ?_ ?_) <;> first | omega | assumption) | fail)) | (with_reducible refine in_ok ?_ ?_; focus (first | omega | assumption | ((repeat' refine And.intro ?_ ?_) <;> first | omega | assumption) | fail)) | (rw [bandOff_ok ok hb hL hA h e2 (k := y2) (by omega) (by omega), so_bd]; try dsimp only) | (rw [bandOff_ok ok hb hL hA h e2 (k := y1) (by omega) (by omega), so_bd]; try dsimp only) | (rw [so_bd]; try dsimp only))
          exact ih (n + 1) y2 (y2 + 1) (by rw [es, if_pos (by omega)]) (by omega) (by omega) (by omega)
  refine ⟨q1, ?_⟩
  rw [m_X12_farthestBand]
  repeat (first | (with_reducible refine gd_ok ?_ ?_; focus (first | omega | assumption | ((repeat' refine And.intro ?_ ?_) <;> first | omega | assumption) | fail)) | (with_reducible refine ip_ok ?_ ?_; focus (first | omega | assumption | ((repeat' refine And.intro ?_ ?_) <;> first | omega | assumption) | fail)) | (with_reducible refine in_ok ?_ ?_; focus (first | omega | assumption | ((repeat' refine And.intro ?_ ?_) <;> first | omega | assumption) | fail)) | (rw [e1, so_bd]; try dsimp only) | (rw [so_bd]; try dsimp only))
  exact lp N 0 0 1 rfl rfl hm1 (by omega)
end
section
variable {N : Nat} {S : SM} {a : Nat} {p : Int → Int} {x : Int} {g b st stt s1 s2 s3 s4 : Int → Int} {z1 z2 d1 d2 d3 : Int} {le mo : Int}
theorem ldrift_s_b64 (hN : 40000 ≤ N) (ok : okP g b) {sc go ba st' st : Int → Int} {m dB : Int} (hr : RwA g b sc go ba) (hb : Bd (cn g b) st m) (hs : SA st' st m) (h : SmR S a p x) (hx : 0 ≤ x ∧ x + 1000 ≤ 1000) : ∀ (f n : Nat) (dA dM y7 y9 : Int), y9 = (n : Int) + 1 → y9 ≤ m → dA = drA g b st m S a y9 → dM = am (fun k => - offB g b st m S a k) n → y7 = offB g b st m S a dM → (m - y9).toNat < f → m_X13_laysDrift_s_b64 N stt p x (cn g b) m dB sc go ba st' (cG g b (cn g b) + cB g b (cn g b)) (smTotal S a) f dA dM y7 y9 = some (1, cn g b, m, drA g b st m S a m, dB, am (fun k => - offB g b st m S a k) (m - 1).toNat, sc, go, ba, st') := by
  have ok2 := ok.2.1
  have hm := hb.1
  intro f
  induction f with
  | zero => intro n dA dM y7 y9 _ _ _ _ _ h; omega
  | succ f ih =>
    intro n dA dM y7 y9 h9 h1 hA hM h7 hf
    have ai := am_in (fun k => - offB g b st m S a k) n
    rw [m_X13_laysDrift_s_b64]
    by_cases c : m ≤ y9
    · repeat (first | (with_reducible refine gd_ok ?_ ?_; focus (first | omega | assumption | ((repeat' refine And.intro ?_ ?_) <;> first | omega | assumption) | fail)) | (with_reducible refine ip_ok ?_ ?_; focus (first | omega | assumption | ((repeat' refine And.intro ?_ ?_) <;> first | omega | assumption) | fail)) | (with_reducible refine in_ok ?_ ?_; focus (first | omega | assumption | ((repeat' refine And.intro ?_ ?_) <;> first | omega | assumption) | fail)) | (rw [so_bd]; try dsimp only))
      rw [hA, hM, show y9 = m by omega, show (m - 1).toNat = n by omega]
    · have q1 := off_in ok hb h (k := dM) (by omega) (by omega)
      have q2 := off_in ok hb h (k := y9) (by omega) (by omega)
      have qd := off_d ok hb h (k := y9) (by omega) (by omega)
      have ib := inb_in h (cs g b) st m y9
      have ed : iabs ((bG (cG g b) st y9 + bG (cB g b) st y9) * smTotal S a - inb (cs g b) st m S a y9 * (cG g b (cn g b) + cB g b (cn g b))) = offB g b st m S a y9 := rfl
      have qd : -141134400 ≤ (bG (cG g b) st y9 + bG (cB g b) st y9) * smTotal S a - inb (cs g b) st m S a y9 * (cG g b (cn g b) + cB g b (cn g b)) ∧ (bG (cG g b) st y9 + bG (cB g b) st y9) * smTotal S a - inb (cs g b) st m S a y9 * (cG g b (cn g b) + cB g b (cn g b)) ≤ 141134400 := qd
      have es : am (fun k => - offB g b st m S a k) (n + 1) = if - offB g b st m S a y9 < - offB g b st m S a dM then y9 else dM := by rw [hM, h9]; rfl
      have eA : drA g b st m S a (y9 + 1) = drA g b st m S a y9 + offB g b st m S a y9 := sI_s _ (by omega)
      have i1 := inBand_s_ok (N := N) hN ok hr hb hs h hx (k := y9) ⟨by omega, by omega⟩
      by_cases d : offB g b st m S a y9 ≤ y7
      · have em : max y7 (offB g b st m S a y9) = y7 := by omega
        repeat (first | (with_reducible refine gd_ok ?_ ?_; focus (first | omega | assumption | ((repeat' refine And.intro ?_ ?_) <;> first | omega | assumption) | fail)) | (with_reducible refine ip_ok ?_ ?_; focus (first | omega | assumption | ((repeat' refine And.intro ?_ ?_) <;> first | omega | assumption) | fail)) | (with_reducible refine in_ok ?_ ?_; focus (first | omega | assumption | ((repeat' refine And.intro ?_ ?_) <;> first | omega | assumption) | fail)) | (rw [ofBand2 hN ok hr hb hs (k := y9) (by omega) (by omega), so_bd]; try dsimp only) | (rw [i1, so_bd]; try dsimp only) | (rw [so_bd]; try dsimp only))
        rw [m_X13_laysDrift_s_b129, ed]
        repeat (first | (with_reducible refine gd_ok ?_ ?_; focus (first | omega | assumption | ((repeat' refine And.intro ?_ ?_) <;> first | omega | assumption) | fail)) | (with_reducible refine ip_ok ?_ ?_; focus (first | omega | assumption | ((repeat' refine And.intro ?_ ?_) <;> first | omega | assumption) | fail)) | (with_reducible refine in_ok ?_ ?_; focus (first | omega | assumption | ((repeat' refine And.intro ?_ ?_) <;> first | omega | assumption) | fail)) | rw [em] | (rw [so_bd]; try dsimp only))
        exact ih (n + 1) _ _ _ (y9 + 1) (by omega) (by omega) (by rw [eA, hA]) (by rw [es, if_neg (by omega)]) h7 (by omega)
      · have em : max y7 (offB g b st m S a y9) = offB g b st m S a y9 := by omega
        repeat (first | (with_reducible refine gd_ok ?_ ?_; focus (first | omega | assumption | ((repeat' refine And.intro ?_ ?_) <;> first | omega | assumption) | fail)) | (with_reducible refine ip_ok ?_ ?_; focus (first | omega | assumption | ((repeat' refine And.intro ?_ ?_) <;> first | omega | assumption) | fail)) | (with_reducible refine in_ok ?_ ?_; focus (first | omega | assumption | ((repeat' refine And.intro ?_ ?_) <;> first | omega | assumption) | fail)) | (rw [ofBand2 hN ok hr hb hs (k := y9) (by omega) (by omega), so_bd]; try dsimp only) | (rw [i1, so_bd]; try dsimp only) | (rw [so_bd]; try dsimp only))
        rw [m_X13_laysDrift_s_b129, ed]
        repeat (first | (with_reducible refine gd_ok ?_ ?_; focus (first | omega | assumption | ((repeat' refine And.intro ?_ ?_) <;> first | omega | assumption) | fail)) | (with_reducible refine ip_ok ?_ ?_; focus (first | omega | assumption | ((repeat' refine And.intro ?_ ?_) <;> first | omega | assumption) | fail)) | (with_reducible refine in_ok ?_ ?_; focus (first | omega | assumption | ((repeat' refine And.intro ?_ ?_) <;> first | omega | assumption) | fail)) | rw [em] | (rw [so_bd]; try dsimp only))
        exact ih (n + 1) _ _ _ (y9 + 1) (by omega) (by omega) (by rw [eA, hA]) (by rw [es, if_pos (by omega)]) rfl (by omega)
theorem ldrift_s0 (hN : 40000 ≤ N) (ok : okP g b) (hle : 0 ≤ le ∧ le ≤ 9999) (hmo : 1 ≤ mo ∧ mo ≤ 60) (hst : StA stt g b) (h3 : stt 3201 = le ∧ stt 3202 = mo) (h : SmR S a p x) (hx : 0 ≤ x ∧ x + 1000 ≤ 1000) (hz : cn g b = 0 ∨ smTotal S a = 0) : ∃ r, m_X13_laysDrift_s N stt p z1 z2 d1 d2 d3 s1 s2 s3 s4 x = some (0, r) := by
  obtain ⟨sc1, go1, ba1, ar1, lb1, hr, hsa, hb⟩ := laysB (z1 := z1) (z2 := z2) (s1 := s1) (s2 := s2) (s3 := s3) (s4 := s4) hN ok hle hmo hst h3
  have n := C_b ok (cn_0 g b) (Int.le_refl _)
  have t := h.tot
  have n0 := cn_0 g b
  rw [m_X13_laysDrift_s]
  by_cases c : cG g b (cn g b) + cB g b (cn g b) = 0
  · refine ⟨(cn g b, bmm g b le mo, d1, d2, d3, sc1, go1, ba1, ar1), ?_⟩
    · repeat (first | (with_reducible refine gd_ok ?_ ?_; focus (first | omega | assumption | ((repeat' refine And.intro ?_ ?_) <;> first | omega | assumption) | fail)) | (with_reducible refine ip_ok ?_ ?_; focus (first | omega | assumption | ((repeat' refine And.intro ?_ ?_) <;> first | omega | assumption) | fail)) | (with_reducible refine in_ok ?_ ?_; focus (first | omega | assumption | ((repeat' refine And.intro ?_ ?_) <;> first | omega | assumption) | fail)) | (rw [lb1, so_bd]; try dsimp only) | (rw [of02 hN ok hr n0 (Int.le_refl _), so_bd]; try dsimp only) | (rw [casesOf_ok hN (n := 1000) hx h, so_bd]; try dsimp only) | (rw [so_bd]; try dsimp only))
      all_goals rfl
  · have e : smTotal S a = 0 := by
      rcases hz with e | e
      · rw [e] at c
        exact absurd rfl c
      · exact e
    refine ⟨(cn g b, bmm g b le mo, d1, d2, d3, sc1, go1, ba1, ar1), ?_⟩
    · repeat (first | (with_reducible refine gd_ok ?_ ?_; focus (first | omega | assumption | ((repeat' refine And.intro ?_ ?_) <;> first | omega | assumption) | fail)) | (with_reducible refine ip_ok ?_ ?_; focus (first | omega | assumption | ((repeat' refine And.intro ?_ ?_) <;> first | omega | assumption) | fail)) | (with_reducible refine in_ok ?_ ?_; focus (first | omega | assumption | ((repeat' refine And.intro ?_ ?_) <;> first | omega | assumption) | fail)) | (rw [lb1, so_bd]; try dsimp only) | (rw [of02 hN ok hr n0 (Int.le_refl _), so_bd]; try dsimp only) | (rw [casesOf_ok hN (n := 1000) hx h, so_bd]; try dsimp only) | (rw [so_bd]; try dsimp only))
      all_goals rfl
theorem ldrift_s1 (hN : 40000 ≤ N) (ok : okP g b) (hle : 0 ≤ le ∧ le ≤ 9999) (hmo : 1 ≤ mo ∧ mo ≤ 60) (hst : StA stt g b) (h3 : stt 3201 = le ∧ stt 3202 = mo) (h : SmR S a p x) (hx : 0 ≤ x ∧ x + 1000 ≤ 1000) (hn : 0 < cn g b) (ht : ¬ smTotal S a = 0) : ∃ sc go ba st', m_X13_laysDrift_s N stt p z1 z2 d1 d2 d3 s1 s2 s3 s4 x = some (1, cn g b, bmm g b le mo, drA g b (bst g b le mo) (bmm g b le mo) S a (bmm g b le mo), (cG g b (cn g b) + cB g b (cn g b)) * smTotal S a, am (fun k => - offB g b (bst g b le mo) (bmm g b le mo) S a k) (bmm g b le mo - 1).toNat, sc, go, ba, st') := by
  obtain ⟨sc1, go1, ba1, ar1, lb1, hr, hsa, hb⟩ := laysB (z1 := z1) (z2 := z2) (s1 := s1) (s2 := s2) (s3 := s3) (s4 := s4) hN ok hle hmo hst h3
  have n := C_b ok (cn_0 g b) (Int.le_refl _)
  have t := h.tot
  have n0 := cn_0 g b
  have cd := cC_d (g := g) (b := b) (Int.le_refl 0) n0 (Int.le_refl _)
  have y1 : cG g b 0 = 0 := rfl
  have y2 : cB g b 0 = 0 := rfl
  have hm1 : 1 ≤ bmm g b le mo := by
    have e1 := hb.2.1
    have e2 := hb.2.2.1
    have e3 := hb.1
    by_cases z : bmm g b le mo = 0
    · rw [z] at e2
      omega
    · omega
  have ok2 := ok.2.1
  have hm := hb.1
  have q2 := off_in ok hb h (k := 0) (by omega) (by omega)
  have qd := off_d ok hb h (k := 0) (by omega) (by omega)
  have ib := inb_in h (cs g b) (bst g b le mo) (bmm g b le mo) 0
  have ed : iabs ((bG (cG g b) (bst g b le mo) 0 + bG (cB g b) (bst g b le mo) 0) * smTotal S a - inb (cs g b) (bst g b le mo) (bmm g b le mo) S a 0 * (cG g b (cn g b) + cB g b (cn g b))) = offB g b (bst g b le mo) (bmm g b le mo) S a 0 := rfl
  have qd : -141134400 ≤ (bG (cG g b) (bst g b le mo) 0 + bG (cB g b) (bst g b le mo) 0) * smTotal S a - inb (cs g b) (bst g b le mo) (bmm g b le mo) S a 0 * (cG g b (cn g b) + cB g b (cn g b)) ∧ (bG (cG g b) (bst g b le mo) 0 + bG (cB g b) (bst g b le mo) 0) * smTotal S a - inb (cs g b) (bst g b le mo) (bmm g b le mo) S a 0 * (cG g b (cn g b) + cB g b (cn g b)) ≤ 141134400 := qd
  have i1 := inBand_s_ok (N := N) hN ok hr hb hsa h hx (k := 0) ⟨by decide, by decide⟩
  have em : max (-1) (offB g b (bst g b le mo) (bmm g b le mo) S a 0) = offB g b (bst g b le mo) (bmm g b le mo) S a 0 := by omega
  obtain ⟨f, ef⟩ : ∃ f, N = f + 1 := ⟨N - 1, by omega⟩
  have hh := ldrift_s_b64 (N := N) (stt := stt) (dB := (cG g b (cn g b) + cB g b (cn g b)) * smTotal S a) hN ok hr hb hsa h hx f 0 (0 + offB g b (bst g b le mo) (bmm g b le mo) S a 0) 0 (offB g b (bst g b le mo) (bmm g b le mo) S a 0) (0 + 1) rfl (by omega) rfl rfl rfl (by omega)
  have e3 : m_X13_laysDrift_s_b64 N stt p x (cn g b) (bmm g b le mo) ((cG g b (cn g b) + cB g b (cn g b)) * smTotal S a) sc1 go1 ba1 ar1 (cG g b (cn g b) + cB g b (cn g b)) (smTotal S a) N 0 0 (-1) 0 = m_X13_laysDrift_s_b64 N stt p x (cn g b) (bmm g b le mo) ((cG g b (cn g b) + cB g b (cn g b)) * smTotal S a) sc1 go1 ba1 ar1 (cG g b (cn g b) + cB g b (cn g b)) (smTotal S a) (f + 1) 0 0 (-1) 0 := by rw [← ef]
  refine ⟨sc1, go1, ba1, ar1, ?_⟩
  rw [m_X13_laysDrift_s]
  repeat (first | (with_reducible refine gd_ok ?_ ?_; focus (first | omega | assumption | ((repeat' refine And.intro ?_ ?_) <;> first | omega | assumption) | fail)) | (with_reducible refine ip_ok ?_ ?_; focus (first | omega | assumption | ((repeat' refine And.intro ?_ ?_) <;> first | omega | assumption) | fail)) | (with_reducible refine in_ok ?_ ?_; focus (first | omega | assumption | ((repeat' refine And.intro ?_ ?_) <;> first | omega | assumption) | fail)) | (rw [lb1, so_bd]; try dsimp only) | (rw [of02 hN ok hr n0 (Int.le_refl _), so_bd]; try dsimp only) | (rw [casesOf_ok hN (n := 1000) hx h, so_bd]; try dsimp only) | (rw [so_bd]; try dsimp only))
  rw [e3, m_X13_laysDrift_s_b64]
  repeat (first | (with_reducible refine gd_ok ?_ ?_; focus (first | omega | assumption | ((repeat' refine And.intro ?_ ?_) <;> first | omega | assumption) | fail)) | (with_reducible refine ip_ok ?_ ?_; focus (first | omega | assumption | ((repeat' refine And.intro ?_ ?_) <;> first | omega | assumption) | fail)) | (with_reducible refine in_ok ?_ ?_; focus (first | omega | assumption | ((repeat' refine And.intro ?_ ?_) <;> first | omega | assumption) | fail)) | (rw [ofBand2 hN ok hr hb hsa (k := 0) (by omega) (by omega), so_bd]; try dsimp only) | (rw [i1, so_bd]; try dsimp only) | (rw [so_bd]; try dsimp only))
  rw [m_X13_laysDrift_s_b129, ed]
  repeat (first | (with_reducible refine gd_ok ?_ ?_; focus (first | omega | assumption | ((repeat' refine And.intro ?_ ?_) <;> first | omega | assumption) | fail)) | (with_reducible refine ip_ok ?_ ?_; focus (first | omega | assumption | ((repeat' refine And.intro ?_ ?_) <;> first | omega | assumption) | fail)) | (with_reducible refine in_ok ?_ ?_; focus (first | omega | assumption | ((repeat' refine And.intro ?_ ?_) <;> first | omega | assumption) | fail)) | rw [em] | (rw [so_bd]; try dsimp only))
  exact hh
theorem ldrift_m_b64 (hN : 40000 ≤ N) (ok : okP g b) {sc go ba st' st : Int → Int} {m dB : Int} (hr : RwA g b sc go ba) (hb : Bd (cn g b) st m) (hs : SA st' st m) (h : SmR S a p x) (hx : 0 ≤ x ∧ x + 1000 ≤ 12000) : ∀ (f n : Nat) (dA dM y7 y9 : Int), y9 = (n : Int) + 1 → y9 ≤ m → dA = drA g b st m S a y9 → dM = am (fun k => - offB g b st m S a k) n → y7 = offB g b st m S a dM → (m - y9).toNat < f → m_X13_laysDrift_m_b64 N stt p x (cn g b) m dB sc go ba st' (cG g b (cn g b) + cB g b (cn g b)) (smTotal S a) f dA dM y7 y9 = some (1, cn g b, m, drA g b st m S a m, dB, am (fun k => - offB g b st m S a k) (m - 1).toNat, sc, go, ba, st') := by
  have ok2 := ok.2.1
  have hm := hb.1
  intro f
  induction f with
  | zero => intro n dA dM y7 y9 _ _ _ _ _ h; omega
  | succ f ih =>
    intro n dA dM y7 y9 h9 h1 hA hM h7 hf
    have ai := am_in (fun k => - offB g b st m S a k) n
    rw [m_X13_laysDrift_m_b64]
    by_cases c : m ≤ y9
    · repeat (first | (with_reducible refine gd_ok ?_ ?_; focus (first | omega | assumption | ((repeat' refine And.intro ?_ ?_) <;> first | omega | assumption) | fail)) | (with_reducible refine ip_ok ?_ ?_; focus (first | omega | assumption | ((repeat' refine And.intro ?_ ?_) <;> first | omega | assumption) | fail)) | (with_reducible refine in_ok ?_ ?_; focus (first | omega | assumption | ((repeat' refine And.intro ?_ ?_) <;> first | omega | assumption) | fail)) | (rw [so_bd]; try dsimp only))
      rw [hA, hM, show y9 = m by omega, show (m - 1).toNat = n by omega]
    · have q1 := off_in ok hb h (k := dM) (by omega) (by omega)
      have q2 := off_in ok hb h (k := y9) (by omega) (by omega)
      have qd := off_d ok hb h (k := y9) (by omega) (by omega)
      have ib := inb_in h (cs g b) st m y9
      have ed : iabs ((bG (cG g b) st y9 + bG (cB g b) st y9) * smTotal S a - inb (cs g b) st m S a y9 * (cG g b (cn g b) + cB g b (cn g b))) = offB g b st m S a y9 := rfl
      have qd : -141134400 ≤ (bG (cG g b) st y9 + bG (cB g b) st y9) * smTotal S a - inb (cs g b) st m S a y9 * (cG g b (cn g b) + cB g b (cn g b)) ∧ (bG (cG g b) st y9 + bG (cB g b) st y9) * smTotal S a - inb (cs g b) st m S a y9 * (cG g b (cn g b) + cB g b (cn g b)) ≤ 141134400 := qd
      have es : am (fun k => - offB g b st m S a k) (n + 1) = if - offB g b st m S a y9 < - offB g b st m S a dM then y9 else dM := by rw [hM, h9]; rfl
      have eA : drA g b st m S a (y9 + 1) = drA g b st m S a y9 + offB g b st m S a y9 := sI_s _ (by omega)
      have i1 := inBand_m_ok (N := N) hN ok hr hb hs h hx (k := y9) ⟨by omega, by omega⟩
      by_cases d : offB g b st m S a y9 ≤ y7
      · have em : max y7 (offB g b st m S a y9) = y7 := by omega
        repeat (first | (with_reducible refine gd_ok ?_ ?_; focus (first | omega | assumption | ((repeat' refine And.intro ?_ ?_) <;> first | omega | assumption) | fail)) | (with_reducible refine ip_ok ?_ ?_; focus (first | omega | assumption | ((repeat' refine And.intro ?_ ?_) <;> first | omega | assumption) | fail)) | (with_reducible refine in_ok ?_ ?_; focus (first | omega | assumption | ((repeat' refine And.intro ?_ ?_) <;> first | omega | assumption) | fail)) | (rw [ofBand2 hN ok hr hb hs (k := y9) (by omega) (by omega), so_bd]; try dsimp only) | (rw [i1, so_bd]; try dsimp only) | (rw [so_bd]; try dsimp only))
        rw [m_X13_laysDrift_m_b129, ed]
        repeat (first | (with_reducible refine gd_ok ?_ ?_; focus (first | omega | assumption | ((repeat' refine And.intro ?_ ?_) <;> first | omega | assumption) | fail)) | (with_reducible refine ip_ok ?_ ?_; focus (first | omega | assumption | ((repeat' refine And.intro ?_ ?_) <;> first | omega | assumption) | fail)) | (with_reducible refine in_ok ?_ ?_; focus (first | omega | assumption | ((repeat' refine And.intro ?_ ?_) <;> first | omega | assumption) | fail)) | rw [em] | (rw [so_bd]; try dsimp only))
        exact ih (n + 1) _ _ _ (y9 + 1) (by omega) (by omega) (by rw [eA, hA]) (by rw [es, if_neg (by omega)]) h7 (by omega)
      · have em : max y7 (offB g b st m S a y9) = offB g b st m S a y9 := by omega
        repeat (first | (with_reducible refine gd_ok ?_ ?_; focus (first | omega | assumption | ((repeat' refine And.intro ?_ ?_) <;> first | omega | assumption) | fail)) | (with_reducible refine ip_ok ?_ ?_; focus (first | omega | assumption | ((repeat' refine And.intro ?_ ?_) <;> first | omega | assumption) | fail)) | (with_reducible refine in_ok ?_ ?_; focus (first | omega | assumption | ((repeat' refine And.intro ?_ ?_) <;> first | omega | assumption) | fail)) | (rw [ofBand2 hN ok hr hb hs (k := y9) (by omega) (by omega), so_bd]; try dsimp only) | (rw [i1, so_bd]; try dsimp only) | (rw [so_bd]; try dsimp only))
        rw [m_X13_laysDrift_m_b129, ed]
        repeat (first | (with_reducible refine gd_ok ?_ ?_; focus (first | omega | assumption | ((repeat' refine And.intro ?_ ?_) <;> first | omega | assumption) | fail)) | (with_reducible refine ip_ok ?_ ?_; focus (first | omega | assumption | ((repeat' refine And.intro ?_ ?_) <;> first | omega | assumption) | fail)) | (with_reducible refine in_ok ?_ ?_; focus (first | omega | assumption | ((repeat' refine And.intro ?_ ?_) <;> first | omega | assumption) | fail)) | rw [em] | (rw [so_bd]; try dsimp only))
        exact ih (n + 1) _ _ _ (y9 + 1) (by omega) (by omega) (by rw [eA, hA]) (by rw [es, if_pos (by omega)]) rfl (by omega)
theorem ldrift_m0 (hN : 40000 ≤ N) (ok : okP g b) (hle : 0 ≤ le ∧ le ≤ 9999) (hmo : 1 ≤ mo ∧ mo ≤ 60) (hst : StA stt g b) (h3 : stt 3201 = le ∧ stt 3202 = mo) (h : SmR S a p x) (hx : 0 ≤ x ∧ x + 1000 ≤ 12000) (hz : cn g b = 0 ∨ smTotal S a = 0) : ∃ r, m_X13_laysDrift_m N stt p z1 z2 d1 d2 d3 s1 s2 s3 s4 x = some (0, r) := by
  obtain ⟨sc1, go1, ba1, ar1, lb1, hr, hsa, hb⟩ := laysB (z1 := z1) (z2 := z2) (s1 := s1) (s2 := s2) (s3 := s3) (s4 := s4) hN ok hle hmo hst h3
  have n := C_b ok (cn_0 g b) (Int.le_refl _)
  have t := h.tot
  have n0 := cn_0 g b
  rw [m_X13_laysDrift_m]
  by_cases c : cG g b (cn g b) + cB g b (cn g b) = 0
  · refine ⟨(cn g b, bmm g b le mo, d1, d2, d3, sc1, go1, ba1, ar1), ?_⟩
    · repeat (first | (with_reducible refine gd_ok ?_ ?_; focus (first | omega | assumption | ((repeat' refine And.intro ?_ ?_) <;> first | omega | assumption) | fail)) | (with_reducible refine ip_ok ?_ ?_; focus (first | omega | assumption | ((repeat' refine And.intro ?_ ?_) <;> first | omega | assumption) | fail)) | (with_reducible refine in_ok ?_ ?_; focus (first | omega | assumption | ((repeat' refine And.intro ?_ ?_) <;> first | omega | assumption) | fail)) | (rw [lb1, so_bd]; try dsimp only) | (rw [of02 hN ok hr n0 (Int.le_refl _), so_bd]; try dsimp only) | (rw [casesOf_ok hN (n := 12000) hx h, so_bd]; try dsimp only) | (rw [so_bd]; try dsimp only))
      all_goals rfl
  · have e : smTotal S a = 0 := by
      rcases hz with e | e
      · rw [e] at c
        exact absurd rfl c
      · exact e
    refine ⟨(cn g b, bmm g b le mo, d1, d2, d3, sc1, go1, ba1, ar1), ?_⟩
    · repeat (first | (with_reducible refine gd_ok ?_ ?_; focus (first | omega | assumption | ((repeat' refine And.intro ?_ ?_) <;> first | omega | assumption) | fail)) | (with_reducible refine ip_ok ?_ ?_; focus (first | omega | assumption | ((repeat' refine And.intro ?_ ?_) <;> first | omega | assumption) | fail)) | (with_reducible refine in_ok ?_ ?_; focus (first | omega | assumption | ((repeat' refine And.intro ?_ ?_) <;> first | omega | assumption) | fail)) | (rw [lb1, so_bd]; try dsimp only) | (rw [of02 hN ok hr n0 (Int.le_refl _), so_bd]; try dsimp only) | (rw [casesOf_ok hN (n := 12000) hx h, so_bd]; try dsimp only) | (rw [so_bd]; try dsimp only))
      all_goals rfl
theorem ldrift_m1 (hN : 40000 ≤ N) (ok : okP g b) (hle : 0 ≤ le ∧ le ≤ 9999) (hmo : 1 ≤ mo ∧ mo ≤ 60) (hst : StA stt g b) (h3 : stt 3201 = le ∧ stt 3202 = mo) (h : SmR S a p x) (hx : 0 ≤ x ∧ x + 1000 ≤ 12000) (hn : 0 < cn g b) (ht : ¬ smTotal S a = 0) : ∃ sc go ba st', m_X13_laysDrift_m N stt p z1 z2 d1 d2 d3 s1 s2 s3 s4 x = some (1, cn g b, bmm g b le mo, drA g b (bst g b le mo) (bmm g b le mo) S a (bmm g b le mo), (cG g b (cn g b) + cB g b (cn g b)) * smTotal S a, am (fun k => - offB g b (bst g b le mo) (bmm g b le mo) S a k) (bmm g b le mo - 1).toNat, sc, go, ba, st') := by
  obtain ⟨sc1, go1, ba1, ar1, lb1, hr, hsa, hb⟩ := laysB (z1 := z1) (z2 := z2) (s1 := s1) (s2 := s2) (s3 := s3) (s4 := s4) hN ok hle hmo hst h3
  have n := C_b ok (cn_0 g b) (Int.le_refl _)
  have t := h.tot
  have n0 := cn_0 g b
  have cd := cC_d (g := g) (b := b) (Int.le_refl 0) n0 (Int.le_refl _)
  have y1 : cG g b 0 = 0 := rfl
  have y2 : cB g b 0 = 0 := rfl
  have hm1 : 1 ≤ bmm g b le mo := by
    have e1 := hb.2.1
    have e2 := hb.2.2.1
    have e3 := hb.1
    by_cases z : bmm g b le mo = 0
    · rw [z] at e2
      omega
    · omega
  have ok2 := ok.2.1
  have hm := hb.1
  have q2 := off_in ok hb h (k := 0) (by omega) (by omega)
  have qd := off_d ok hb h (k := 0) (by omega) (by omega)
  have ib := inb_in h (cs g b) (bst g b le mo) (bmm g b le mo) 0
  have ed : iabs ((bG (cG g b) (bst g b le mo) 0 + bG (cB g b) (bst g b le mo) 0) * smTotal S a - inb (cs g b) (bst g b le mo) (bmm g b le mo) S a 0 * (cG g b (cn g b) + cB g b (cn g b))) = offB g b (bst g b le mo) (bmm g b le mo) S a 0 := rfl
  have qd : -141134400 ≤ (bG (cG g b) (bst g b le mo) 0 + bG (cB g b) (bst g b le mo) 0) * smTotal S a - inb (cs g b) (bst g b le mo) (bmm g b le mo) S a 0 * (cG g b (cn g b) + cB g b (cn g b)) ∧ (bG (cG g b) (bst g b le mo) 0 + bG (cB g b) (bst g b le mo) 0) * smTotal S a - inb (cs g b) (bst g b le mo) (bmm g b le mo) S a 0 * (cG g b (cn g b) + cB g b (cn g b)) ≤ 141134400 := qd
  have i1 := inBand_m_ok (N := N) hN ok hr hb hsa h hx (k := 0) ⟨by decide, by decide⟩
  have em : max (-1) (offB g b (bst g b le mo) (bmm g b le mo) S a 0) = offB g b (bst g b le mo) (bmm g b le mo) S a 0 := by omega
  obtain ⟨f, ef⟩ : ∃ f, N = f + 1 := ⟨N - 1, by omega⟩
  have hh := ldrift_m_b64 (N := N) (stt := stt) (dB := (cG g b (cn g b) + cB g b (cn g b)) * smTotal S a) hN ok hr hb hsa h hx f 0 (0 + offB g b (bst g b le mo) (bmm g b le mo) S a 0) 0 (offB g b (bst g b le mo) (bmm g b le mo) S a 0) (0 + 1) rfl (by omega) rfl rfl rfl (by omega)
  have e3 : m_X13_laysDrift_m_b64 N stt p x (cn g b) (bmm g b le mo) ((cG g b (cn g b) + cB g b (cn g b)) * smTotal S a) sc1 go1 ba1 ar1 (cG g b (cn g b) + cB g b (cn g b)) (smTotal S a) N 0 0 (-1) 0 = m_X13_laysDrift_m_b64 N stt p x (cn g b) (bmm g b le mo) ((cG g b (cn g b) + cB g b (cn g b)) * smTotal S a) sc1 go1 ba1 ar1 (cG g b (cn g b) + cB g b (cn g b)) (smTotal S a) (f + 1) 0 0 (-1) 0 := by rw [← ef]
  refine ⟨sc1, go1, ba1, ar1, ?_⟩
  rw [m_X13_laysDrift_m]
  repeat (first | (with_reducible refine gd_ok ?_ ?_; focus (first | omega | assumption | ((repeat' refine And.intro ?_ ?_) <;> first | omega | assumption) | fail)) | (with_reducible refine ip_ok ?_ ?_; focus (first | omega | assumption | ((repeat' refine And.intro ?_ ?_) <;> first | omega | assumption) | fail)) | (with_reducible refine in_ok ?_ ?_; focus (first | omega | assumption | ((repeat' refine And.intro ?_ ?_) <;> first | omega | assumption) | fail)) | (rw [lb1, so_bd]; try dsimp only) | (rw [of02 hN ok hr n0 (Int.le_refl _), so_bd]; try dsimp only) | (rw [casesOf_ok hN (n := 12000) hx h, so_bd]; try dsimp only) | (rw [so_bd]; try dsimp only))
  rw [e3, m_X13_laysDrift_m_b64]
  repeat (first | (with_reducible refine gd_ok ?_ ?_; focus (first | omega | assumption | ((repeat' refine And.intro ?_ ?_) <;> first | omega | assumption) | fail)) | (with_reducible refine ip_ok ?_ ?_; focus (first | omega | assumption | ((repeat' refine And.intro ?_ ?_) <;> first | omega | assumption) | fail)) | (with_reducible refine in_ok ?_ ?_; focus (first | omega | assumption | ((repeat' refine And.intro ?_ ?_) <;> first | omega | assumption) | fail)) | (rw [ofBand2 hN ok hr hb hsa (k := 0) (by omega) (by omega), so_bd]; try dsimp only) | (rw [i1, so_bd]; try dsimp only) | (rw [so_bd]; try dsimp only))
  rw [m_X13_laysDrift_m_b129, ed]
  repeat (first | (with_reducible refine gd_ok ?_ ?_; focus (first | omega | assumption | ((repeat' refine And.intro ?_ ?_) <;> first | omega | assumption) | fail)) | (with_reducible refine ip_ok ?_ ?_; focus (first | omega | assumption | ((repeat' refine And.intro ?_ ?_) <;> first | omega | assumption) | fail)) | (with_reducible refine in_ok ?_ ?_; focus (first | omega | assumption | ((repeat' refine And.intro ?_ ?_) <;> first | omega | assumption) | fail)) | rw [em] | (rw [so_bd]; try dsimp only))
  exact hh
end
