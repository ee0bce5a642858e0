/-! taking what was read, whole -/
section
variable {N : Nat}
theorem take_ok (hN : 40000 ≤ N) {ats p1 p2 l m gc bc rc : Int} {sc go ba op rd it co g b o : Int → Int} (h : Td ats sc go ba op rd it) : ∃ g' b' o', m_X6_take N ats p1 p2 sc go ba op co l m gc bc rc g b o = some (p1, p2, co 0, co 1, co 2, g', b', o') ∧ ∀ x, 0 ≤ x → x < 1000 → g' x = rd x ∧ b' x = rd (1000 + x) ∧ o' x = rd (2000 + x) := by
  obtain ⟨a1, a2, a3, a4⟩ := id h
  obtain ⟨g1, e1, f1⟩ := jfill_ok (N := N) hN (n := 1000) (by omega) (v := 0) (q := g)
  obtain ⟨b1, e2, f2⟩ := jfill_ok (N := N) hN (n := 1000) (by omega) (v := 0) (q := b)
  obtain ⟨o1, e3, f3⟩ := jfill_ok (N := N) hN (n := 1000) (by omega) (v := 0) (q := o)
  obtain ⟨g', b', o', f', q1, q2⟩ := take26 (N := N) (p1 := p1) (p2 := p2) (l := l) (m := m) (gc := gc) (bc := bc) (rc := rc) (co := co) h N g1 b1 o1 0 (by omega) a1.1 (by omega) (fun x x0 x1 => by
    rcases a4 x x0 x1 with w | ⟨w, j, j0, j1, j2⟩
    · rw [w.2.1, w.2.2.1, w.2.2.2]
      exact Or.inl ⟨f1 x x0 x1, f2 x x0 x1, f3 x x0 x1⟩
    · exact Or.inr ⟨j, j0, j1, j2⟩)
  refine ⟨g', b', o', ?_, q2⟩
  rw [m_X6_take, e1, so_bd, e2, so_bd, e3, so_bd, q1, m_X6_take_b26]
  have sC : m_X6_setCosts N gc bc rc (co 0) (co 1) (co 2) = some (co 0, co 1, co 2) := by
    rw [m_X6_setCosts]
  repeat (first | (with_reducible refine gd_ok ?_ ?_; focus (first | omega | assumption | ((repeat' refine And.intro ?_ ?_) <;> first | omega | assumption) | fail)) | (with_reducible refine ip_ok ?_ ?_; focus (first | omega | assumption | ((repeat' refine And.intro ?_ ?_) <;> first | omega | assumption) | fail)) | (with_reducible refine in_ok ?_ ?_; focus (first | omega | assumption | ((repeat' refine And.intro ?_ ?_) <;> first | omega | assumption) | fail)) | (rw [sC, so_bd]; try dsimp only) | (rw [so_bd]; try dsimp only))
  all_goals rfl
end
