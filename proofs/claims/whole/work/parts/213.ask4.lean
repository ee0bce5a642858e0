/-! the same answer: yields, medians, pairs -/
section
variable {N : Nat} {g b : Int → Int}
theorem C_b (ok : okP g b) {i : Int} (h0 : 0 ≤ i) (hi : i ≤ cn g b) : 0 ≤ cG g b i + cB g b i ∧ cG g b i + cB g b i ≤ cG g b (cn g b) + cB g b (cn g b) ∧ cG g b (cn g b) + cB g b (cn g b) ≤ 11880 := by
  have b1 := cG_b ok h0 hi
  have m1 := cG_m ok h0 hi (Int.le_refl _)
  have m2 := cB_m ok h0 hi (Int.le_refl _)
  have := ok.2.2
  omega
theorem C_m (ok : okP g b) {i j : Int} (h0 : 0 ≤ i) (hij : i ≤ j) (hj : j ≤ cn g b) : cG g b i + cB g b i ≤ cG g b j + cB g b j := by
  have m1 := cG_m ok h0 hij hj
  have m2 := cB_m ok h0 hij hj
  omega
/-- the last row of which so many are accepted -/
def acP (g b : Int → Int) (m i : Int) : Prop := m * (cG g b (cn g b) + cB g b (cn g b)) ≤ (cG g b (cn g b) + cB g b (cn g b) - (cG g b i + cB g b i)) * 1000
theorem lst_or (P : Int → Prop) (n : Nat) (h0 : P 0) : ∃ i : Int, (0 ≤ i ∧ i ≤ n) ∧ P i ∧ ∀ j : Int, i < j → j ≤ n → ¬ P j := by
  induction n with
  | zero => exact ⟨0, ⟨Int.le_refl _, Int.le_refl _⟩, h0, fun j j0 j1 => by omega⟩
  | succ n ih =>
    by_cases c : P ((n : Int) + 1)
    · exact ⟨(n : Int) + 1, ⟨by omega, by omega⟩, c, fun j j0 j1 => by omega⟩
    · obtain ⟨i, h1, h2, h3⟩ := ih
      refine ⟨i, ⟨h1.1, by omega⟩, h2, fun j j0 j1 => ?_⟩
      by_cases e : j = (n : Int) + 1
      · rw [e]; exact c
      · exact h3 j j0 (by omega)
theorem greatestCut_ok (ok : okP g b) {sc go ba gA bA : Int → Int} (hr : RwA g b sc go ba) (h : AhA g b gA bA) {m i : Int} (hm : 0 ≤ m ∧ m ≤ 1000) (hi : 0 ≤ i ∧ i < cn g b) (hp : acP g b m i) (hP : ∀ j, i < j → j ≤ cn g b → ¬ acP g b m j) : ∀ (f : Nat) (y : Int), i ≤ y → y < cn g b → (y - i).toNat < f → m_X8_greatestCutOf_b24 N (cn g b) sc gA bA m f y = some (cs g b i) := by
  have ok2 := ok.2.1
  intro f
  induction f with
  | zero => intro y _ _ h; omega
  | succ f ih =>
    intro y y0 y1 hf
    have bd := C_b ok (i := y) (by omega) (by omega)
    have p1 := mul_bd (a := m) (b := cG g b (cn g b) + cB g b (cn g b)) (A := 1000) (B := 11880) hm (by omega)
    rw [m_X8_greatestCutOf_b24]
    by_cases c : y ≤ 0
    · have e : i = 0 := by omega
      repeat (first | (with_reducible refine gd_ok ?_ ?_; focus (first | omega | assumption | ((repeat' refine And.intro ?_ ?_) <;> first | omega | assumption) | fail)) | (with_reducible refine ip_ok ?_ ?_; focus (first | omega | assumption | ((repeat' refine And.intro ?_ ?_) <;> first | omega | assumption) | fail)) | (with_reducible refine in_ok ?_ ?_; focus (first | omega | assumption | ((repeat' refine And.intro ?_ ?_) <;> first | omega | assumption) | fail)) | (rw [so_bd]; try dsimp only))
      rw [(hr 0 (by omega) (by omega)).1, e]
    · by_cases d : y = i
      · subst d
        unfold acP at hp
        repeat (first | (with_reducible refine gd_ok ?_ ?_; focus (first | omega | assumption | ((repeat' refine And.intro ?_ ?_) <;> first | omega | assumption) | fail)) | (with_reducible refine ip_ok ?_ ?_; focus (first | omega | assumption | ((repeat' refine And.intro ?_ ?_) <;> first | omega | assumption) | fail)) | (with_reducible refine in_ok ?_ ?_; focus (first | omega | assumption | ((repeat' refine And.intro ?_ ?_) <;> first | omega | assumption) | fail)) | (rw [rcases_ok ok h, so_bd]; try dsimp only) | (rw [casesAhead_ok ok h (i := y) (by omega) (by omega), so_bd]; try dsimp only) | (rw [so_bd]; try dsimp only))
        rw [(hr y (by omega) (by omega)).1]
      · have q := hP y (by omega) (by omega)
        unfold acP at q
        repeat (first | (with_reducible refine gd_ok ?_ ?_; focus (first | omega | assumption | ((repeat' refine And.intro ?_ ?_) <;> first | omega | assumption) | fail)) | (with_reducible refine ip_ok ?_ ?_; focus (first | omega | assumption | ((repeat' refine And.intro ?_ ?_) <;> first | omega | assumption) | fail)) | (with_reducible refine in_ok ?_ ?_; focus (first | omega | assumption | ((repeat' refine And.intro ?_ ?_) <;> first | omega | assumption) | fail)) | (rw [rcases_ok ok h, so_bd]; try dsimp only) | (rw [casesAhead_ok ok h (i := y) (by omega) (by omega), so_bd]; try dsimp only) | (rw [so_bd]; try dsimp only))
        exact ih (y + -1) (by omega) (by omega) (by omega)
theorem accepts_b18_ok (ok : okP g b) {stt sc go ba bl : Int → Int} {z : Int} (hb : BlA g b bl) {m i k : Int} (hm : 0 ≤ m ∧ m ≤ 1000) (hn : 0 < cn g b) (hk : 0 ≤ k ∧ k ≤ 1000) (h1 : ∀ c, 0 ≤ c → c ≤ k → acP g b m (lb g b c)) (h2 : ∀ c, k < c → c ≤ 1000 → ¬ acP g b m (lb g b c)) : ∀ (f : Nat) (y2 y3 : Int), 0 ≤ y3 → y3 ≤ 1001 → (y3 ≤ k + 1 → y2 = y3 - 1) → (k + 1 ≤ y3 → y2 = k) → (1001 - y3).toNat < f → Rt (m_X13_accepts_b18 N stt m z sc go ba bl f y2 y3) k := by
  have ok2 := ok.2.1
  have cd := cC_d (g := g) (b := b) (Int.le_refl 0) (show (0 : Int) ≤ cn g b by omega) (Int.le_refl _)
  have z1 : cG g b 0 = 0 := rfl
  have z2 : cB g b 0 = 0 := rfl
  have a0 : m_X13_accepted N bl 0 = some (cG g b (cn g b) + cB g b (cn g b)) := by
    rw [accepted_ok hb ⟨Int.le_refl 0, by decide⟩]
    have e : lb g b 0 = 0 := rfl
    rw [e, z1, z2]
    congr 1
    omega
  intro f
  induction f with
  | zero => intro y2 y3 _ _ _ _ h; omega
  | succ f ih =>
    intro y2 y3 h0 h3 e1 e2 hf
    rw [m_X13_accepts_b18]
    by_cases c : 1000 < y3
    · repeat (first | (with_reducible refine Rt.gd ?_ ?_; focus (first | omega | assumption | ((repeat' refine And.intro ?_ ?_) <;> first | omega | assumption) | fail)) | (with_reducible refine Rt.ip ?_ ?_; focus (first | omega | assumption | ((repeat' refine And.intro ?_ ?_) <;> first | omega | assumption) | fail)) | (with_reducible refine Rt.in_ ?_ ?_; focus (first | omega | assumption | ((repeat' refine And.intro ?_ ?_) <;> first | omega | assumption) | fail)) | (rw [so_bd]; try dsimp only))
      rw [e2 (by omega)]
      exact Rt.so
    · have li := lb_in (g := g) (b := b) (c := y3) (by omega)
      have bd := C_b ok li.1 li.2
      have p1 := mul_bd (a := m) (b := cG g b (cn g b) + cB g b (cn g b)) (A := 1000) (B := 11880) hm (by omega)
      by_cases d : y3 ≤ k
      · have q := h1 y3 h0 d
        unfold acP at q
        repeat (first | (with_reducible refine Rt.gd ?_ ?_; focus (first | omega | assumption | ((repeat' refine And.intro ?_ ?_) <;> first | omega | assumption) | fail)) | (with_reducible refine Rt.ip ?_ ?_; focus (first | omega | assumption | ((repeat' refine And.intro ?_ ?_) <;> first | omega | assumption) | fail)) | (with_reducible refine Rt.in_ ?_ ?_; focus (first | omega | assumption | ((repeat' refine And.intro ?_ ?_) <;> first | omega | assumption) | fail)) | (rw [a0, so_bd]; try dsimp only) | (rw [accepted_ok hb ⟨h0, by omega⟩, so_bd]; try dsimp only) | (rw [so_bd]; try dsimp only))
        exact ih y3 (y3 + 1) (by omega) (by omega) (by omega) (by omega) (by omega)
      · have q := h2 y3 (by omega) (by omega)
        have e2 := e2 (by omega)
        unfold acP at q
        repeat (first | (with_reducible refine Rt.gd ?_ ?_; focus (first | omega | assumption | ((repeat' refine And.intro ?_ ?_) <;> first | omega | assumption) | fail)) | (with_reducible refine Rt.ip ?_ ?_; focus (first | omega | assumption | ((repeat' refine And.intro ?_ ?_) <;> first | omega | assumption) | fail)) | (with_reducible refine Rt.in_ ?_ ?_; focus (first | omega | assumption | ((repeat' refine And.intro ?_ ?_) <;> first | omega | assumption) | fail)) | (rw [a0, so_bd]; try dsimp only) | (rw [accepted_ok hb ⟨h0, by omega⟩, so_bd]; try dsimp only) | (rw [so_bd]; try dsimp only))
        exact ih y2 (y3 + 1) (by omega) (by omega) (by omega) (by omega) (by omega)
/-- the row that holds a case -/
theorem holder_b16_ok (ok : okP g b) {gA bA : Int → Int} (h : AhA g b gA bA) {x r : Int} (hx : 0 ≤ x ∧ x ≤ 11880) (hr : 0 ≤ r ∧ r < cn g b) (h1 : cG g b r + cB g b r ≤ x) (h2 : x < cG g b (r + 1) + cB g b (r + 1)) : ∀ (f : Nat) (y2 y3 y4 : Int), 0 ≤ y2 → y2 ≤ r → r ≤ y3 → y3 < cn g b → 0 ≤ y4 → y3 - y2 + y4 ≤ 59 → (y3 - y2).toNat < f → m_X8_holder_b16 N (cn g b) gA bA x f y2 y3 y4 = some r := by
  have ok2 := ok.2.1
  intro f
  induction f with
  | zero => intro y2 y3 y4 _ _ _ _ _ _ h; omega
  | succ f ih =>
    intro y2 y3 y4 a1 a2 a3 a4 a5 a6 hf
    rw [m_X8_holder_b16]
    by_cases c : y3 ≤ y2
    · repeat (first | (with_reducible refine gd_ok ?_ ?_; focus (first | omega | assumption | ((repeat' refine And.intro ?_ ?_) <;> first | omega | assumption) | fail)) | (with_reducible refine ip_ok ?_ ?_; focus (first | omega | assumption | ((repeat' refine And.intro ?_ ?_) <;> first | omega | assumption) | fail)) | (with_reducible refine in_ok ?_ ?_; focus (first | omega | assumption | ((repeat' refine And.intro ?_ ?_) <;> first | omega | assumption) | fail)) | (rw [so_bd]; try dsimp only))
      congr 1
      omega
    · have bd := C_b ok (i := (y2 + y3) / 2 + 1) (by omega) (by omega)
      by_cases d : cG g b ((y2 + y3) / 2 + 1) + cB g b ((y2 + y3) / 2 + 1) ≤ x
      · have q : (y2 + y3) / 2 + 1 ≤ r := by
          by_cases q : (y2 + y3) / 2 + 1 ≤ r
          · exact q
          · have := C_m ok (i := r + 1) (j := (y2 + y3) / 2 + 1) (by omega) (by omega) (by omega)
            omega
        repeat (first | (with_reducible refine gd_ok ?_ ?_; focus (first | omega | assumption | ((repeat' refine And.intro ?_ ?_) <;> first | omega | assumption) | fail)) | (with_reducible refine ip_ok ?_ ?_; focus (first | omega | assumption | ((repeat' refine And.intro ?_ ?_) <;> first | omega | assumption) | fail)) | (with_reducible refine in_ok ?_ ?_; focus (first | omega | assumption | ((repeat' refine And.intro ?_ ?_) <;> first | omega | assumption) | fail)) | (rw [casesAhead_ok ok h (i := (y2 + y3) / 2 + 1) (by omega) (by omega), so_bd]; try dsimp only) | (rw [so_bd]; try dsimp only))
        exact ih _ _ _ (by omega) (by omega) (by omega) (by omega) (by omega) (by omega) (by omega)
      · have q : r ≤ (y2 + y3) / 2 := by
          by_cases q : r ≤ (y2 + y3) / 2
          · exact q
          · have := C_m ok (i := (y2 + y3) / 2 + 1) (j := r) (by omega) (by omega) (by omega)
            omega
        repeat (first | (with_reducible refine gd_ok ?_ ?_; focus (first | omega | assumption | ((repeat' refine And.intro ?_ ?_) <;> first | omega | assumption) | fail)) | (with_reducible refine ip_ok ?_ ?_; focus (first | omega | assumption | ((repeat' refine And.intro ?_ ?_) <;> first | omega | assumption) | fail)) | (with_reducible refine in_ok ?_ ?_; focus (first | omega | assumption | ((repeat' refine And.intro ?_ ?_) <;> first | omega | assumption) | fail)) | (rw [casesAhead_ok ok h (i := (y2 + y3) / 2 + 1) (by omega) (by omega), so_bd]; try dsimp only) | (rw [so_bd]; try dsimp only))
        exact ih _ _ _ (by omega) (by omega) (by omega) (by omega) (by omega) (by omega) (by omega)
theorem holder_ok (hN : 40000 ≤ N) (ok : okP g b) {gA bA : Int → Int} (h : AhA g b gA bA) {x r : Int} (hx : 0 ≤ x ∧ x ≤ 11880) (hr : 0 ≤ r ∧ r < cn g b) (h1 : cG g b r + cB g b r ≤ x) (h2 : x < cG g b (r + 1) + cB g b (r + 1)) : m_X8_holder N (cn g b) gA bA x = some r := by
  have ok2 := ok.2.1
  have e : max (cn g b - 1) 0 = cn g b - 1 := by omega
  rw [m_X8_holder, e]
  repeat (first | (with_reducible refine gd_ok ?_ ?_; focus (first | omega | assumption | ((repeat' refine And.intro ?_ ?_) <;> first | omega | assumption) | fail)) | (with_reducible refine ip_ok ?_ ?_; focus (first | omega | assumption | ((repeat' refine And.intro ?_ ?_) <;> first | omega | assumption) | fail)) | (with_reducible refine in_ok ?_ ?_; focus (first | omega | assumption | ((repeat' refine And.intro ?_ ?_) <;> first | omega | assumption) | fail)) | (rw [so_bd]; try dsimp only))
  exact holder_b16_ok ok h hx hr h1 h2 N 0 (cn g b - 1) 0 (Int.le_refl 0) hr.1 (by omega) (by omega) (Int.le_refl 0) (by omega) (by omega)
theorem holds (ok : okP g b) {x : Int} (h0 : 0 ≤ x) (h1 : x < cG g b (cn g b) + cB g b (cn g b)) : ∃ r, (0 ≤ r ∧ r < cn g b) ∧ cG g b r + cB g b r ≤ x ∧ x < cG g b (r + 1) + cB g b (r + 1) := by
  have n0 := cn_0 g b
  have z1 : cG g b 0 = 0 := rfl
  have z2 : cB g b 0 = 0 := rfl
  obtain ⟨i, a1, a2, a3⟩ := lst_or (fun i => i ≤ cn g b ∧ cG g b i + cB g b i ≤ x) (cn g b).toNat ⟨n0, by rw [z1, z2]; omega⟩
  have ni : i ≠ cn g b := by
    intro e
    have := a2.2
    rw [e] at this
    omega
  refine ⟨i, ⟨a1.1, by omega⟩, a2.2, ?_⟩
  have q := a3 (i + 1) (by omega) (by omega)
  by_cases c : x < cG g b (i + 1) + cB g b (i + 1)
  · exact c
  · exact absurd ⟨by omega, by omega⟩ q
theorem median_b21_ok (hN : 40000 ≤ N) (ok : okP g b) {stt sc go ba : Int → Int} (hr : RwA g b sc go ba) {x r : Int} (hx : 0 ≤ x ∧ x ≤ 11880) (h : 0 ≤ r ∧ r < cn g b) (h1 : cG g b r + cB g b r ≤ x) (h2 : x < cG g b (r + 1) + cB g b (r + 1)) : ∀ (f : Nat) (y : Int), 0 ≤ y → y ≤ r → (r - y).toNat < f → Rt (m_X13_median_b21 N stt (cn g b) sc go ba x f y) (cs g b r) := by
  have ok2 := ok.2.1
  intro f
  induction f with
  | zero => intro y _ _ h; omega
  | succ f ih =>
    intro y y0 y1 hf
    rw [m_X13_median_b21]
    have bd := C_b ok (i := y + 1) (by omega) (by omega)
    by_cases c : y = r
    · subst c
      repeat (first | (with_reducible refine Rt.gd ?_ ?_; focus (first | omega | assumption | ((repeat' refine And.intro ?_ ?_) <;> first | omega | assumption) | fail)) | (with_reducible refine Rt.ip ?_ ?_; focus (first | omega | assumption | ((repeat' refine And.intro ?_ ?_) <;> first | omega | assumption) | fail)) | (with_reducible refine Rt.in_ ?_ ?_; focus (first | omega | assumption | ((repeat' refine And.intro ?_ ?_) <;> first | omega | assumption) | fail)) | (rw [of02 hN ok hr (x2 := y + 1) (by omega) (by omega), so_bd]; try dsimp only) | (rw [so_bd]; try dsimp only))
      rw [(hr y (by omega) (by omega)).1]
      exact Rt.so
    · have m := C_m ok (i := y + 1) (j := r) (by omega) (by omega) (by omega)
      repeat (first | (with_reducible refine Rt.gd ?_ ?_; focus (first | omega | assumption | ((repeat' refine And.intro ?_ ?_) <;> first | omega | assumption) | fail)) | (with_reducible refine Rt.ip ?_ ?_; focus (first | omega | assumption | ((repeat' refine And.intro ?_ ?_) <;> first | omega | assumption) | fail)) | (with_reducible refine Rt.in_ ?_ ?_; focus (first | omega | assumption | ((repeat' refine And.intro ?_ ?_) <;> first | omega | assumption) | fail)) | (rw [of02 hN ok hr (x2 := y + 1) (by omega) (by omega), so_bd]; try dsimp only) | (rw [so_bd]; try dsimp only))
      exact ih (y + 1) (by omega) (by omega) (by omega)
theorem few_ok (hN : 40000 ≤ N) (ok : okP g b) {stt sc go ba gA bA : Int → Int} (hr : RwA g b sc go ba) (h : AhA g b gA bA) {m : Int} (hm : 0 ≤ m ∧ m ≤ 1000) : ∀ (f : Nat) (y : Int), 0 ≤ y → y ≤ cn g b → (cn g b - y).toNat < f → ∃ a, m_X8_badOfFew_b2 N (cn g b) gA bA m f y = some a ∧ Rt (m_X13_capture_b16 N stt m (cn g b) sc go ba f y) a := by
  have ok2 := ok.2.1
  intro f
  induction f with
  | zero => intro y _ _ h; omega
  | succ f ih =>
    intro y y0 y1 hf
    have bd := C_b ok y0 y1
    have n0 := cn_0 g b
    have p1 := mul_bd (a := m) (b := cG g b (cn g b) + cB g b (cn g b)) (A := 1000) (B := 11880) hm (by omega)
    have p2 : m * (cG g b (cn g b) + cB g b (cn g b)) ≤ 1000 * (cG g b (cn g b) + cB g b (cn g b)) := Int.mul_le_mul_of_nonneg_right hm.2 (by omega)
    rw [m_X8_badOfFew_b2, m_X13_capture_b16]
    by_cases c : cn g b ≤ y
    · have e : y = cn g b := by omega
      subst e
      refine ⟨cB g b (cn g b), ?_, ?_⟩
      · repeat (first | (with_reducible refine gd_ok ?_ ?_; focus (first | omega | assumption | ((repeat' refine And.intro ?_ ?_) <;> first | omega | assumption) | fail)) | (with_reducible refine ip_ok ?_ ?_; focus (first | omega | assumption | ((repeat' refine And.intro ?_ ?_) <;> first | omega | assumption) | fail)) | (with_reducible refine in_ok ?_ ?_; focus (first | omega | assumption | ((repeat' refine And.intro ?_ ?_) <;> first | omega | assumption) | fail)) | (rw [bads_ok ok h, so_bd]; try dsimp only) | (rw [so_bd]; try dsimp only))
        all_goals rfl
      · repeat (first | (with_reducible refine Rt.gd ?_ ?_; focus (first | omega | assumption | ((repeat' refine And.intro ?_ ?_) <;> first | omega | assumption) | fail)) | (with_reducible refine Rt.ip ?_ ?_; focus (first | omega | assumption | ((repeat' refine And.intro ?_ ?_) <;> first | omega | assumption) | fail)) | (with_reducible refine Rt.in_ ?_ ?_; focus (first | omega | assumption | ((repeat' refine And.intro ?_ ?_) <;> first | omega | assumption) | fail)) | (rw [of02 hN ok hr (x2 := cn g b) n0 (Int.le_refl _), so_bd]; try dsimp only) | (rw [of01 hN ok hr (x2 := cn g b) n0 (Int.le_refl _), so_bd]; try dsimp only) | (rw [so_bd]; try dsimp only))
        all_goals exact Rt.so
    · by_cases d : (cG g b y + cB g b y) * 1000 < m * (cG g b (cn g b) + cB g b (cn g b))
      · obtain ⟨a, q1, q2⟩ := ih (y + 1) (by omega) (by omega) (by omega)
        refine ⟨a, ?_, ?_⟩
        · repeat (first | (with_reducible refine gd_ok ?_ ?_; focus (first | omega | assumption | ((repeat' refine And.intro ?_ ?_) <;> first | omega | assumption) | fail)) | (with_reducible refine ip_ok ?_ ?_; focus (first | omega | assumption | ((repeat' refine And.intro ?_ ?_) <;> first | omega | assumption) | fail)) | (with_reducible refine in_ok ?_ ?_; focus (first | omega | assumption | ((repeat' refine And.intro ?_ ?_) <;> first | omega | assumption) | fail)) | (rw [casesAhead_ok ok h y0 y1, so_bd]; try dsimp only) | (rw [rcases_ok ok h, so_bd]; try dsimp only) | (rw [so_bd]; try dsimp only))
          exact q1
        · repeat (first | (with_reducible refine Rt.gd ?_ ?_; focus (first | omega | assumption | ((repeat' refine And.intro ?_ ?_) <;> first | omega | assumption) | fail)) | (with_reducible refine Rt.ip ?_ ?_; focus (first | omega | assumption | ((repeat' refine And.intro ?_ ?_) <;> first | omega | assumption) | fail)) | (with_reducible refine Rt.in_ ?_ ?_; focus (first | omega | assumption | ((repeat' refine And.intro ?_ ?_) <;> first | omega | assumption) | fail)) | (rw [of02 hN ok hr (x2 := y) y0 y1, so_bd]; try dsimp only) | (rw [of02 hN ok hr (x2 := cn g b) n0 (Int.le_refl _), so_bd]; try dsimp only) | (rw [so_bd]; try dsimp only))
          exact q2
      · refine ⟨cB g b y, ?_, ?_⟩
        · repeat (first | (with_reducible refine gd_ok ?_ ?_; focus (first | omega | assumption | ((repeat' refine And.intro ?_ ?_) <;> first | omega | assumption) | fail)) | (with_reducible refine ip_ok ?_ ?_; focus (first | omega | assumption | ((repeat' refine And.intro ?_ ?_) <;> first | omega | assumption) | fail)) | (with_reducible refine in_ok ?_ ?_; focus (first | omega | assumption | ((repeat' refine And.intro ?_ ?_) <;> first | omega | assumption) | fail)) | (rw [casesAhead_ok ok h y0 y1, so_bd]; try dsimp only) | (rw [rcases_ok ok h, so_bd]; try dsimp only) | (rw [so_bd]; try dsimp only))
          rw [(h y y0 y1).2]
        · repeat (first | (with_reducible refine Rt.gd ?_ ?_; focus (first | omega | assumption | ((repeat' refine And.intro ?_ ?_) <;> first | omega | assumption) | fail)) | (with_reducible refine Rt.ip ?_ ?_; focus (first | omega | assumption | ((repeat' refine And.intro ?_ ?_) <;> first | omega | assumption) | fail)) | (with_reducible refine Rt.in_ ?_ ?_; focus (first | omega | assumption | ((repeat' refine And.intro ?_ ?_) <;> first | omega | assumption) | fail)) | (rw [of02 hN ok hr (x2 := y) y0 y1, so_bd]; try dsimp only) | (rw [of02 hN ok hr (x2 := cn g b) n0 (Int.le_refl _), so_bd]; try dsimp only) | (rw [of01 hN ok hr (x2 := y) y0 y1, so_bd]; try dsimp only) | (rw [so_bd]; try dsimp only))
          all_goals exact Rt.so
/-- inversions -/
def rkr (g b : Int → Int) (j i : Int) : Int := if cb g b j * (cg g b i + cb g b i) ≤ cb g b i * (cg g b j + cb g b j) then 0 else 1
def ivC (g b : Int → Int) (n : Int) : Int := sI (fun j => sI (fun i => rkr g b j i) j) n
theorem rk_bd (ok : okP g b) {i j : Int} (i0 : 0 ≤ i) (i1 : i < cn g b) (j0 : 0 ≤ j) (j1 : j < cn g b) : 0 ≤ cb g b j * (cg g b i + cb g b i) ∧ cb g b j * (cg g b i + cb g b i) ≤ 141134400 := by
  have a := cg_in ok i0 i1
  have c := cg_in ok j0 j1
  exact mul_bd (A := 11880) (B := 11880) (by omega) (by omega)
theorem isRiskier_ok (ok : okP g b) {sc go ba : Int → Int} (hr : RwA g b sc go ba) {i j : Int} (i0 : 0 ≤ i) (i1 : i < cn g b) (j0 : 0 ≤ j) (j1 : j < cn g b) : m_X8_isRiskier N go ba j i = some (rkr g b j i) := by
  have ok2 := ok.2.1
  obtain ⟨-, a1, a2⟩ := hr i i0 i1
  obtain ⟨-, a3, a4⟩ := hr j j0 j1
  have q1 := rk_bd ok i0 i1 j0 j1
  have q2 := rk_bd ok j0 j1 i0 i1
  rw [m_X8_isRiskier, a1, a2, a3, a4]
  unfold rkr
  by_cases c : cb g b j * (cg g b i + cb g b i) ≤ cb g b i * (cg g b j + cb g b j)
  · repeat (first | (with_reducible refine gd_ok ?_ ?_; focus (first | omega | assumption | ((repeat' refine And.intro ?_ ?_) <;> first | omega | assumption) | fail)) | (with_reducible refine ip_ok ?_ ?_; focus (first | omega | assumption | ((repeat' refine And.intro ?_ ?_) <;> first | omega | assumption) | fail)) | (with_reducible refine in_ok ?_ ?_; focus (first | omega | assumption | ((repeat' refine And.intro ?_ ?_) <;> first | omega | assumption) | fail)) | (rw [so_bd]; try dsimp only))
    rw [if_pos c]
  · repeat (first | (with_reducible refine gd_ok ?_ ?_; focus (first | omega | assumption | ((repeat' refine And.intro ?_ ?_) <;> first | omega | assumption) | fail)) | (with_reducible refine ip_ok ?_ ?_; focus (first | omega | assumption | ((repeat' refine And.intro ?_ ?_) <;> first | omega | assumption) | fail)) | (with_reducible refine in_ok ?_ ?_; focus (first | omega | assumption | ((repeat' refine And.intro ?_ ?_) <;> first | omega | assumption) | fail)) | (rw [so_bd]; try dsimp only))
    rw [if_neg c]
theorem rkr_01 (j i : Int) : rkr g b j i = 0 ∨ rkr g b j i = 1 := by
  unfold rkr
  by_cases c : cb g b j * (cg g b i + cb g b i) ≤ cb g b i * (cg g b j + cb g b j)
  · rw [if_pos c]; exact Or.inl rfl
  · rw [if_neg c]; exact Or.inr rfl
/-- the reference's way: for each row those behind it -/
def ivR (g b : Int → Int) (n : Int) (r : Int) : Int := sI (fun o => if r < o then rkr g b o r else 0) n
theorem iv_zero {n : Int} (hn : 0 ≤ n) : ∀ k, 0 ≤ k → n ≤ k + 1 → ivR g b n k = 0 := by
  intro k k0 hk
  unfold ivR
  rw [sI_congr (g := fun _ => 0) (fun j j0 j1 => if_neg (by omega)), sI_zero hn]
theorem iv_swap {n : Int} (hn : 0 ≤ n) : sI (ivR g b n) n = ivC g b n := by
  refine up_ind (P := fun n => sI (ivR g b n) n = ivC g b n) rfl (fun n h ih => ?_) n hn
  show sI (ivR g b (n + 1)) (n + 1) = ivC g b (n + 1)
  unfold ivC
  rw [sI_s _ h, sI_s _ h, iv_zero (by omega) n h (by omega)]
  have e : sI (ivR g b (n + 1)) n = sI (fun r => ivR g b n r + rkr g b n r) n := by
    refine sI_congr (fun r r0 r1 => ?_)
    show ivR g b (n + 1) r = ivR g b n r + rkr g b n r
    unfold ivR
    rw [sI_s _ h]
    simp only [if_pos r1]
  have e2 : sI (fun r => ivR g b n r) n = ivC g b n := ih
  have e3 : sI (fun i => rkr g b n i) n = sI (rkr g b n) n := rfl
  rw [e, sI_add _ _ h, e2]
  unfold ivC
  omega
end
