/-! taking what was read -/
section
variable {N : Nat}
theorem Td.none {ats : Int} {sc go ba op rd it : Int → Int} (h : Td ats sc go ba op rd it) {x : Int} (x0 : 0 ≤ x) (x1 : x < 1000) (hn : ∀ j, 0 ≤ j → j < ats → sc j ≠ x) : rd x = 0 ∧ rd (1000 + x) = 0 ∧ rd (2000 + x) = 0 := by
  rcases h.2.2.2 x x0 x1 with w | ⟨w, j, j0, j1, j2⟩
  · exact w.2
  · exact absurd j2 (hn j j0 j1)
theorem take26 {ats p1 p2 l m gc bc rc : Int} {sc go ba op rd it co : Int → Int} (h : Td ats sc go ba op rd it) : ∀ (f : Nat) (g b o : Int → Int) (y : Int), 0 ≤ y → y ≤ ats → (ats - y).toNat < f → (∀ x, 0 ≤ x → x < 1000 → (g x = rd x ∧ b x = rd (1000 + x) ∧ o x = rd (2000 + x)) ∨ ∃ j, y ≤ j ∧ j < ats ∧ sc j = x) → ∃ g' b' o' f', m_X6_take_b26 N ats p1 p2 sc go ba op co l m gc bc rc f g b o y = m_X6_take_b26 N ats p1 p2 sc go ba op co l m gc bc rc (f' + 1) g' b' o' ats ∧ ∀ x, 0 ≤ x → x < 1000 → g' x = rd x ∧ b' x = rd (1000 + x) ∧ o' x = rd (2000 + x) := by
  obtain ⟨a1, a2, a3, a4⟩ := id h
  intro f
  induction f with
  | zero => intro g b o y _ _ hf; omega
  | succ f ih =>
    intro g b o y y0 y1 hf hg
    by_cases w : y = ats
    · subst w
      refine ⟨g, b, o, f, rfl, fun x x0 x1 => ?_⟩
      rcases hg x x0 x1 with q | ⟨j, j0, j1, -⟩
      · exact q
      · exact absurd j0 (by omega)
    · obtain ⟨p1', p2', p3, p4, p5, -⟩ := a2 y y0 (by omega)
      obtain ⟨g', b', o', f', q1, q2⟩ := ih (uP g (sc y) (go y)) (uP b (sc y) (ba y)) (uP o (sc y) (op y)) (y + 1) (by omega) (by omega) (by omega) (fun x x0 x1 => by
        by_cases e : x = sc y
        · rw [e, uP_s, uP_s, uP_s]
          exact Or.inl ⟨p3.symm, p4.symm, p5.symm⟩
        · rw [uP_o _ _ e, uP_o _ _ e, uP_o _ _ e]
          rcases hg x x0 x1 with q | ⟨j, j0, j1, j2⟩
          · exact Or.inl q
          · refine Or.inr ⟨j, ?_, j1, j2⟩
            have ne : j ≠ y := fun e' => e (by rw [← j2, e'])
            omega)
      refine ⟨g', b', o', f', ?_, q2⟩
      rw [← q1, m_X6_take_b26]
      repeat (first | (with_reducible refine gd_ok ?_ ?_; focus (first | omega | assumption | ((repeat' refine And.intro ?_ ?_) <;> first | omega | assumption) | fail)) | (with_reducible refine ip_ok ?_ ?_; focus (first | omega | assumption | ((repeat' refine And.intro ?_ ?_) <;> first | omega | assumption) | fail)) | (with_reducible refine in_ok ?_ ?_; focus (first | omega | assumption | ((repeat' refine And.intro ?_ ?_) <;> first | omega | assumption) | fail)) | (rw [so_bd]; try dsimp only))
      all_goals rfl
end
