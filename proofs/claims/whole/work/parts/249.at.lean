/-! the reader: a line of a score -/
section
variable {N : Nat} {z : Int} {c r : Int → Int}
def Td (ats : Int) (sc go ba op rd it : Int → Int) : Prop := (0 ≤ ats ∧ ats ≤ 60) ∧ (∀ j, 0 ≤ j → j < ats → (0 ≤ sc j ∧ sc j ≤ 999) ∧ it (sc j) = 1 ∧ rd (sc j) = go j ∧ rd (1000 + sc j) = ba j ∧ rd (2000 + sc j) = op j ∧ (0 ≤ go j ∧ go j ≤ 99) ∧ (0 ≤ ba j ∧ ba j ≤ 99) ∧ (0 ≤ op j ∧ op j ≤ 99)) ∧ (∀ i j, 0 ≤ i → i < j → j < ats → sc i ≠ sc j) ∧ (∀ x, 0 ≤ x → x < 1000 → (it x = 0 ∧ rd x = 0 ∧ rd (1000 + x) = 0 ∧ rd (2000 + x) = 0) ∨ (it x = 1 ∧ ∃ j, 0 ≤ j ∧ j < ats ∧ sc j = x))
theorem rd3 {rd : Int → Int} {y g b o x : Int} (hy : 0 ≤ y ∧ y ≤ 999) (hx : 0 ≤ x ∧ x ≤ 999) : (x = y → uP (uP (uP rd (0 + y) g) (1000 + y) b) (2000 + y) o x = g ∧ uP (uP (uP rd (0 + y) g) (1000 + y) b) (2000 + y) o (1000 + x) = b ∧ uP (uP (uP rd (0 + y) g) (1000 + y) b) (2000 + y) o (2000 + x) = o) ∧ (x ≠ y → uP (uP (uP rd (0 + y) g) (1000 + y) b) (2000 + y) o x = rd x ∧ uP (uP (uP rd (0 + y) g) (1000 + y) b) (2000 + y) o (1000 + x) = rd (1000 + x) ∧ uP (uP (uP rd (0 + y) g) (1000 + y) b) (2000 + y) o (2000 + x) = rd (2000 + x)) := by
  refine ⟨fun e => ?_, fun e => ?_⟩
  · subst e
    refine ⟨?_, ?_, ?_⟩
    · rw [uP_o _ _ (by omega), uP_o _ _ (by omega), show 0 + x = x by omega, uP_s]
    · rw [uP_o _ _ (by omega), uP_s]
    · rw [uP_s]
  · refine ⟨?_, ?_, ?_⟩
    · rw [uP_o _ _ (by omega), uP_o _ _ (by omega), uP_o _ _ (by omega)]
    · rw [uP_o _ _ (by omega), uP_o _ _ (by omega), uP_o _ _ (by omega)]
    · rw [uP_o _ _ (by omega), uP_o _ _ (by omega), uP_o _ _ (by omega)]
theorem Td.more {ats y g b o : Int} {sc go ba op op' rd it : Int → Int} (h : Td ats sc go ba op rd it) (ha : ats < 60) (hy : 0 ≤ y ∧ y ≤ 999) (hg : 0 ≤ g ∧ g ≤ 99) (hb : 0 ≤ b ∧ b ≤ 99) (ho : 0 ≤ o ∧ o ≤ 99) (hn : ∀ j, 0 ≤ j → j < ats → sc j ≠ y) (h1 : op' ats = o) (h2 : ∀ j, j ≠ ats → op' j = op j) : Td (ats + 1) (uP sc ats y) (uP go ats g) (uP ba ats b) op' (uP (uP (uP rd (0 + y) g) (1000 + y) b) (2000 + y) o) (uP it y 1) := by
  obtain ⟨a1, a2, a3, a4⟩ := h
  refine ⟨by omega, fun j j0 j1 => ?_, fun i j i0 i1 j1 => ?_, fun x x0 x1 => ?_⟩
  · by_cases e : j = ats
    · subst e
      obtain ⟨q1, q2, q3⟩ := (rd3 (rd := rd) (g := g) (b := b) (o := o) hy hy).1 rfl
      rw [uP_s, uP_s, uP_s, uP_s, q1, q2, q3, h1]
      exact ⟨hy, rfl, rfl, rfl, rfl, hg, hb, ho⟩
    · obtain ⟨p1, p2, p3, p4, p5, p6, p7, p8⟩ := a2 j j0 (by omega)
      have ne := hn j j0 (by omega)
      obtain ⟨q1, q2, q3⟩ := (rd3 (rd := rd) (g := g) (b := b) (o := o) hy p1).2 ne
      rw [uP_o sc _ e, uP_o go _ e, uP_o ba _ e, uP_o it _ ne, q1, q2, q3, h2 j e]
      exact ⟨p1, p2, p3, p4, p5, p6, p7, p8⟩
  · rw [uP_o sc _ (by omega)]
    by_cases e : j = ats
    · subst e
      rw [uP_s]
      exact hn i i0 i1
    · rw [uP_o sc _ e]
      exact a3 i j i0 i1 (by omega)
  · by_cases e : x = y
    · subst e
      exact Or.inr ⟨uP_s _ _ _, ats, a1.1, by omega, uP_s _ _ _⟩
    · obtain ⟨q1, q2, q3⟩ := (rd3 (rd := rd) (g := g) (b := b) (o := o) hy (x := x) (by omega)).2 e
      rw [uP_o it _ e, q1, q2, q3]
      rcases a4 x x0 x1 with w | ⟨w, j, j0, j1, j2⟩
      · exact Or.inl w
      · exact Or.inr ⟨w, j, j0, by omega, by rw [uP_o sc _ (by omega)]; exact j2⟩
theorem told {ats n : Int} {sc : Int → Int} (ha : 0 ≤ ats ∧ ats ≤ 60) (hn : 0 ≤ n ∧ n ≤ 1000000) (hs : ∀ j, 0 ≤ j → j < ats → 0 ≤ sc j ∧ sc j ≤ 1000000) : ∀ (d : Nat) (y : Int) (f : Nat), 0 ≤ y → y ≤ ats → (ats - y).toNat = d → d < f → ∃ b, m_X7_isTold_b2 N ats sc n f y = some b ∧ ((b = 1 ∧ ∃ j, y ≤ j ∧ j < ats ∧ sc j = n) ∨ (b = 0 ∧ ∀ j, y ≤ j → j < ats → sc j ≠ n)) := by
  intro d
  induction d with
  | zero =>
    intro y f y0 y1 hd hf
    obtain ⟨f, rfl⟩ : ∃ k, f = k + 1 := ⟨f - 1, by omega⟩
    refine ⟨0, ?_, Or.inr ⟨rfl, by omega⟩⟩
    rw [m_X7_isTold_b2]
    repeat (first | (with_reducible refine gd_ok ?_ ?_; focus (first | omega | assumption | ((repeat' refine And.intro ?_ ?_) <;> first | omega | assumption) | fail)) | (with_reducible refine ip_ok ?_ ?_; focus (first | omega | assumption | ((repeat' refine And.intro ?_ ?_) <;> first | omega | assumption) | fail)) | (with_reducible refine in_ok ?_ ?_; focus (first | omega | assumption | ((repeat' refine And.intro ?_ ?_) <;> first | omega | assumption) | fail)) | (rw [so_bd]; try dsimp only))
    all_goals rfl
  | succ d ih =>
    intro y f y0 y1 hd hf
    obtain ⟨f, rfl⟩ : ∃ k, f = k + 1 := ⟨f - 1, by omega⟩
    have hy := hs y y0 (by omega)
    by_cases e : sc y = n
    · refine ⟨1, ?_, Or.inl ⟨rfl, y, Int.le_refl _, by omega, e⟩⟩
      rw [m_X7_isTold_b2]
      repeat (first | (with_reducible refine gd_ok ?_ ?_; focus (first | omega | assumption | ((repeat' refine And.intro ?_ ?_) <;> first | omega | assumption) | fail)) | (with_reducible refine ip_ok ?_ ?_; focus (first | omega | assumption | ((repeat' refine And.intro ?_ ?_) <;> first | omega | assumption) | fail)) | (with_reducible refine in_ok ?_ ?_; focus (first | omega | assumption | ((repeat' refine And.intro ?_ ?_) <;> first | omega | assumption) | fail)) | (rw [so_bd]; try dsimp only))
      all_goals rfl
    · obtain ⟨b, p1, p2⟩ := ih (y + 1) f (by omega) (by omega) (by omega) (by omega)
      refine ⟨b, ?_, ?_⟩
      · rw [← p1, m_X7_isTold_b2]
        repeat (first | (with_reducible refine gd_ok ?_ ?_; focus (first | omega | assumption | ((repeat' refine And.intro ?_ ?_) <;> first | omega | assumption) | fail)) | (with_reducible refine ip_ok ?_ ?_; focus (first | omega | assumption | ((repeat' refine And.intro ?_ ?_) <;> first | omega | assumption) | fail)) | (with_reducible refine in_ok ?_ ?_; focus (first | omega | assumption | ((repeat' refine And.intro ?_ ?_) <;> first | omega | assumption) | fail)) | (rw [so_bd]; try dsimp only))
        all_goals rfl
      · rcases p2 with ⟨w, j, j0, j1, j2⟩ | ⟨w, w'⟩
        · exact Or.inl ⟨w, j, by omega, j1, j2⟩
        · refine Or.inr ⟨w, fun j j0 j1 => ?_⟩
          by_cases q : j = y
          · rw [q]
            exact e
          · exact w' j (by omega) j1
theorem r_n1 {fk fp at_ bg tk va lo hi : Int} (hl : 0 ≤ lo ∧ lo ≤ 9999) (hh : 0 ≤ hi ∧ hi ≤ 9999) (y0 : 0 ≤ va ∧ va ≤ 1000000) : m_X13_number N z r fk fp at_ bg tk va 1 lo hi = some (lo, fk, fp, at_, bg, tk, va, 1) := by
  rw [m_X13_number]
  repeat (first | (with_reducible refine gd_ok ?_ ?_; focus (first | omega | assumption | ((repeat' refine And.intro ?_ ?_) <;> first | omega | assumption) | fail)) | (with_reducible refine ip_ok ?_ ?_; focus (first | omega | assumption | ((repeat' refine And.intro ?_ ?_) <;> first | omega | assumption) | fail)) | (with_reducible refine in_ok ?_ ?_; focus (first | omega | assumption | ((repeat' refine And.intro ?_ ?_) <;> first | omega | assumption) | fail)) | (rw [so_bd]; try dsimp only))
  exact r_nb hl hh y0
end
