/-! the reader: a step is what comes next; a word told -/
section
variable {N : Nat} {z : Int} {c r : Int → Int}
def Tok (z a k s e v w : Int) : Prop := a ≤ s ∧ s ≤ e ∧ e ≤ z ∧ 0 ≤ k ∧ k ≤ 4 ∧ (k = 0 → s = z ∧ e = z) ∧ (k ≠ 0 → s < e) ∧ 0 ≤ v ∧ v ≤ 1000000 ∧ w = min v 10000
theorem token (hN : 40000 ≤ N) (h : TpR z c r) {ki st nu be to va a : Int} (a0 : 0 ≤ a) (a1 : a ≤ z) : ∃ k s e v w, m_X7_step N 0 z c 1600 ki st a nu = some (k, s, e, v) ∧ m_X13_next N z r a be to va = some (e, s, k, w) ∧ Tok z a k s e v w := by
  obtain ⟨hz, hk⟩ := id h
  obtain ⟨a', n', p1, p2, p3, p4, p5⟩ := skips (N := N) h (ki := ki) (st := st) (nu := nu) (be := be) (to := to) (va := va) (z - a).toNat a N N a0 a1 rfl (by omega) (by omega)
  have x1 : m_X7_step N 0 z c 1600 ki st a nu = m_X7_step_b47 N 0 z c 1600 ki st a' nu := by
    rw [← p4, m_X7_step]
    repeat (first | (with_reducible refine gd_ok ?_ ?_; focus (first | omega | assumption | ((repeat' refine And.intro ?_ ?_) <;> first | omega | assumption) | fail)) | (with_reducible refine ip_ok ?_ ?_; focus (first | omega | assumption | ((repeat' refine And.intro ?_ ?_) <;> first | omega | assumption) | fail)) | (with_reducible refine in_ok ?_ ?_; focus (first | omega | assumption | ((repeat' refine And.intro ?_ ?_) <;> first | omega | assumption) | fail)) | (rw [so_bd]; try dsimp only))
    all_goals rfl
  have x2 : m_X13_next N z r a be to va = m_X13_next_b0 N z r be to va (n' + 1) a' := p5
  rw [x1, x2, m_X7_step_b47, m_X13_next_b0]
  have i1 := isAt0 (N := N) h (lo := 32) (hi := 32) (a := a') (by omega) p2 (by omega) (by omega) (by omega)
  have i2 := isAt0 (N := N) h (lo := 10) (hi := 10) (a := a') (by omega) p2 (by omega) (by omega) (by omega)
  by_cases q : a' = z
  · refine ⟨0, a', a', 0, 0, ?_, ?_, ?_⟩
    · repeat (first | (with_reducible refine gd_ok ?_ ?_; focus (first | omega | assumption | ((repeat' refine And.intro ?_ ?_) <;> first | omega | assumption) | fail)) | (with_reducible refine ip_ok ?_ ?_; focus (first | omega | assumption | ((repeat' refine And.intro ?_ ?_) <;> first | omega | assumption) | fail)) | (with_reducible refine in_ok ?_ ?_; focus (first | omega | assumption | ((repeat' refine And.intro ?_ ?_) <;> first | omega | assumption) | fail)) | (rw [so_bd]; try dsimp only))
      rw [m_X7_step_b83]
      repeat (first | (with_reducible refine gd_ok ?_ ?_; focus (first | omega | assumption | ((repeat' refine And.intro ?_ ?_) <;> first | omega | assumption) | fail)) | (with_reducible refine ip_ok ?_ ?_; focus (first | omega | assumption | ((repeat' refine And.intro ?_ ?_) <;> first | omega | assumption) | fail)) | (with_reducible refine in_ok ?_ ?_; focus (first | omega | assumption | ((repeat' refine And.intro ?_ ?_) <;> first | omega | assumption) | fail)) | (rw [so_bd]; try dsimp only))
      obtain ⟨f, rfl⟩ : ∃ k, N = k + 1 := ⟨N - 1, by omega⟩
      rw [m_X7_step_b118]
      repeat (first | (with_reducible refine gd_ok ?_ ?_; focus (first | omega | assumption | ((repeat' refine And.intro ?_ ?_) <;> first | omega | assumption) | fail)) | (with_reducible refine ip_ok ?_ ?_; focus (first | omega | assumption | ((repeat' refine And.intro ?_ ?_) <;> first | omega | assumption) | fail)) | (with_reducible refine in_ok ?_ ?_; focus (first | omega | assumption | ((repeat' refine And.intro ?_ ?_) <;> first | omega | assumption) | fail)) | (rw [so_bd]; try dsimp only))
      all_goals rfl
    · repeat (first | (with_reducible refine gd_ok ?_ ?_; focus (first | omega | assumption | ((repeat' refine And.intro ?_ ?_) <;> first | omega | assumption) | fail)) | (with_reducible refine ip_ok ?_ ?_; focus (first | omega | assumption | ((repeat' refine And.intro ?_ ?_) <;> first | omega | assumption) | fail)) | (with_reducible refine in_ok ?_ ?_; focus (first | omega | assumption | ((repeat' refine And.intro ?_ ?_) <;> first | omega | assumption) | fail)) | (rw [i1, so_bd]; try dsimp only) | (rw [i2, so_bd]; try dsimp only) | (rw [so_bd]; try dsimp only))
      all_goals rfl
    · refine ⟨p1, Int.le_refl _, p2, by omega, by omega, fun _ => ⟨q, q⟩, by omega, by omega, by omega, by omega⟩
  · obtain ⟨e, b0, b1⟩ := hk a' (by omega) (by omega)
    have ko := kind_ok (N := N) ⟨b0, b1⟩
    rcases kd_i (c a') with k | k | k | k
    · obtain ⟨e', l1, l2, l3, l4, l5⟩ := letters (N := N) h (st := a') (nu := 0) (be := a') (va := 0) (z - a').toNat a' N N (by omega) p2 rfl (by omega) (by omega)
      have l6 := l3 (by omega) k.1
      refine ⟨1, a', e', 0, 0, ?_, ?_, ?_⟩
      · rw [k.1] at ko
        repeat (first | (with_reducible refine gd_ok ?_ ?_; focus (first | omega | assumption | ((repeat' refine And.intro ?_ ?_) <;> first | omega | assumption) | fail)) | (with_reducible refine ip_ok ?_ ?_; focus (first | omega | assumption | ((repeat' refine And.intro ?_ ?_) <;> first | omega | assumption) | fail)) | (with_reducible refine in_ok ?_ ?_; focus (first | omega | assumption | ((repeat' refine And.intro ?_ ?_) <;> first | omega | assumption) | fail)) | (rw [ko, so_bd]; try dsimp only) | (rw [so_bd]; try dsimp only))
        rw [m_X7_step_b83]
        repeat (first | (with_reducible refine gd_ok ?_ ?_; focus (first | omega | assumption | ((repeat' refine And.intro ?_ ?_) <;> first | omega | assumption) | fail)) | (with_reducible refine ip_ok ?_ ?_; focus (first | omega | assumption | ((repeat' refine And.intro ?_ ?_) <;> first | omega | assumption) | fail)) | (with_reducible refine in_ok ?_ ?_; focus (first | omega | assumption | ((repeat' refine And.intro ?_ ?_) <;> first | omega | assumption) | fail)) | (rw [so_bd]; try dsimp only))
        exact l4
      · have i3 := isAt1 (N := N) h (lo := 97) (hi := 122) (a := a') (by omega) (by omega) (by omega) (by omega) (by omega) (by omega)
        repeat (first | (with_reducible refine gd_ok ?_ ?_; focus (first | omega | assumption | ((repeat' refine And.intro ?_ ?_) <;> first | omega | assumption) | fail)) | (with_reducible refine ip_ok ?_ ?_; focus (first | omega | assumption | ((repeat' refine And.intro ?_ ?_) <;> first | omega | assumption) | fail)) | (with_reducible refine in_ok ?_ ?_; focus (first | omega | assumption | ((repeat' refine And.intro ?_ ?_) <;> first | omega | assumption) | fail)) | (rw [i1, so_bd]; try dsimp only) | (rw [i2, so_bd]; try dsimp only) | (rw [i3, so_bd]; try dsimp only) | (rw [so_bd]; try dsimp only))
        exact l5
      · refine ⟨p1, l1, l2, by omega, by omega, by omega, fun _ => l6, by omega, by omega, by omega⟩
    · obtain ⟨e', v', w', l1, l2, l3, v0, v1, hw, l4, l5⟩ := digits (N := N) h (st := a') (be := a') (z - a').toNat a' 0 0 N N (by omega) p2 rfl (by omega) (by omega) (by omega) (by omega) (by omega)
      have l6 := l3 (by omega) k.1
      refine ⟨2, a', e', v', w', ?_, ?_, ?_⟩
      · rw [k.1] at ko
        repeat (first | (with_reducible refine gd_ok ?_ ?_; focus (first | omega | assumption | ((repeat' refine And.intro ?_ ?_) <;> first | omega | assumption) | fail)) | (with_reducible refine ip_ok ?_ ?_; focus (first | omega | assumption | ((repeat' refine And.intro ?_ ?_) <;> first | omega | assumption) | fail)) | (with_reducible refine in_ok ?_ ?_; focus (first | omega | assumption | ((repeat' refine And.intro ?_ ?_) <;> first | omega | assumption) | fail)) | (rw [ko, so_bd]; try dsimp only) | (rw [so_bd]; try dsimp only))
        rw [m_X7_step_b83]
        repeat (first | (with_reducible refine gd_ok ?_ ?_; focus (first | omega | assumption | ((repeat' refine And.intro ?_ ?_) <;> first | omega | assumption) | fail)) | (with_reducible refine ip_ok ?_ ?_; focus (first | omega | assumption | ((repeat' refine And.intro ?_ ?_) <;> first | omega | assumption) | fail)) | (with_reducible refine in_ok ?_ ?_; focus (first | omega | assumption | ((repeat' refine And.intro ?_ ?_) <;> first | omega | assumption) | fail)) | (rw [so_bd]; try dsimp only))
        exact l4
      · have i3 := isAt0 (N := N) h (lo := 97) (hi := 122) (a := a') (by omega) (by omega) (by omega) (by omega) (by omega)
        have i4 := isAt1 (N := N) h (lo := 48) (hi := 57) (a := a') (by omega) (by omega) (by omega) (by omega) (by omega) (by omega)
        repeat (first | (with_reducible refine gd_ok ?_ ?_; focus (first | omega | assumption | ((repeat' refine And.intro ?_ ?_) <;> first | omega | assumption) | fail)) | (with_reducible refine ip_ok ?_ ?_; focus (first | omega | assumption | ((repeat' refine And.intro ?_ ?_) <;> first | omega | assumption) | fail)) | (with_reducible refine in_ok ?_ ?_; focus (first | omega | assumption | ((repeat' refine And.intro ?_ ?_) <;> first | omega | assumption) | fail)) | (rw [i1, so_bd]; try dsimp only) | (rw [i2, so_bd]; try dsimp only) | (rw [i3, so_bd]; try dsimp only) | (rw [i4, so_bd]; try dsimp only) | (rw [so_bd]; try dsimp only))
        exact l5
      · refine ⟨p1, l1, l2, by omega, by omega, by omega, fun _ => l6, v0, v1, hw⟩
    · refine ⟨3, a', a' + 1, 0, 0, ?_, ?_, ?_⟩
      · rw [k.1] at ko
        repeat (first | (with_reducible refine gd_ok ?_ ?_; focus (first | omega | assumption | ((repeat' refine And.intro ?_ ?_) <;> first | omega | assumption) | fail)) | (with_reducible refine ip_ok ?_ ?_; focus (first | omega | assumption | ((repeat' refine And.intro ?_ ?_) <;> first | omega | assumption) | fail)) | (with_reducible refine in_ok ?_ ?_; focus (first | omega | assumption | ((repeat' refine And.intro ?_ ?_) <;> first | omega | assumption) | fail)) | (rw [ko, so_bd]; try dsimp only) | (rw [so_bd]; try dsimp only))
        rw [m_X7_step_b83]
        repeat (first | (with_reducible refine gd_ok ?_ ?_; focus (first | omega | assumption | ((repeat' refine And.intro ?_ ?_) <;> first | omega | assumption) | fail)) | (with_reducible refine ip_ok ?_ ?_; focus (first | omega | assumption | ((repeat' refine And.intro ?_ ?_) <;> first | omega | assumption) | fail)) | (with_reducible refine in_ok ?_ ?_; focus (first | omega | assumption | ((repeat' refine And.intro ?_ ?_) <;> first | omega | assumption) | fail)) | (rw [so_bd]; try dsimp only))
        all_goals rfl
      · have i3 := isAt0 (N := N) h (lo := 97) (hi := 122) (a := a') (by omega) (by omega) (by omega) (by omega) (by omega)
        have i4 := isAt0 (N := N) h (lo := 48) (hi := 57) (a := a') (by omega) (by omega) (by omega) (by omega) (by omega)
        have i5 := isAt1 (N := N) h (lo := 59) (hi := 59) (a := a') (by omega) (by omega) (by omega) (by omega) (by omega) (by omega)
        repeat (first | (with_reducible refine gd_ok ?_ ?_; focus (first | omega | assumption | ((repeat' refine And.intro ?_ ?_) <;> first | omega | assumption) | fail)) | (with_reducible refine ip_ok ?_ ?_; focus (first | omega | assumption | ((repeat' refine And.intro ?_ ?_) <;> first | omega | assumption) | fail)) | (with_reducible refine in_ok ?_ ?_; focus (first | omega | assumption | ((repeat' refine And.intro ?_ ?_) <;> first | omega | assumption) | fail)) | (rw [i1, so_bd]; try dsimp only) | (rw [i2, so_bd]; try dsimp only) | (rw [i3, so_bd]; try dsimp only) | (rw [i4, so_bd]; try dsimp only) | (rw [i5, so_bd]; try dsimp only) | (rw [so_bd]; try dsimp only))
        all_goals rfl
      · refine ⟨p1, by omega, by omega, by omega, by omega, by omega, by omega, by omega, by omega, by omega⟩
    · refine ⟨4, a', a' + 1, 0, 0, ?_, ?_, ?_⟩
      · rw [k.1] at ko
        repeat (first | (with_reducible refine gd_ok ?_ ?_; focus (first | omega | assumption | ((repeat' refine And.intro ?_ ?_) <;> first | omega | assumption) | fail)) | (with_reducible refine ip_ok ?_ ?_; focus (first | omega | assumption | ((repeat' refine And.intro ?_ ?_) <;> first | omega | assumption) | fail)) | (with_reducible refine in_ok ?_ ?_; focus (first | omega | assumption | ((repeat' refine And.intro ?_ ?_) <;> first | omega | assumption) | fail)) | (rw [ko, so_bd]; try dsimp only) | (rw [so_bd]; try dsimp only))
        rw [m_X7_step_b83]
        repeat (first | (with_reducible refine gd_ok ?_ ?_; focus (first | omega | assumption | ((repeat' refine And.intro ?_ ?_) <;> first | omega | assumption) | fail)) | (with_reducible refine ip_ok ?_ ?_; focus (first | omega | assumption | ((repeat' refine And.intro ?_ ?_) <;> first | omega | assumption) | fail)) | (with_reducible refine in_ok ?_ ?_; focus (first | omega | assumption | ((repeat' refine And.intro ?_ ?_) <;> first | omega | assumption) | fail)) | (rw [so_bd]; try dsimp only))
        all_goals rfl
      · have i3 := isAt0 (N := N) h (lo := 97) (hi := 122) (a := a') (by omega) (by omega) (by omega) (by omega) (by omega)
        have i4 := isAt0 (N := N) h (lo := 48) (hi := 57) (a := a') (by omega) (by omega) (by omega) (by omega) (by omega)
        have i5 := isAt0 (N := N) h (lo := 59) (hi := 59) (a := a') (by omega) (by omega) (by omega) (by omega) (by omega)
        repeat (first | (with_reducible refine gd_ok ?_ ?_; focus (first | omega | assumption | ((repeat' refine And.intro ?_ ?_) <;> first | omega | assumption) | fail)) | (with_reducible refine ip_ok ?_ ?_; focus (first | omega | assumption | ((repeat' refine And.intro ?_ ?_) <;> first | omega | assumption) | fail)) | (with_reducible refine in_ok ?_ ?_; focus (first | omega | assumption | ((repeat' refine And.intro ?_ ?_) <;> first | omega | assumption) | fail)) | (rw [i1, so_bd]; try dsimp only) | (rw [i2, so_bd]; try dsimp only) | (rw [i3, so_bd]; try dsimp only) | (rw [i4, so_bd]; try dsimp only) | (rw [i5, so_bd]; try dsimp only) | (rw [so_bd]; try dsimp only))
        all_goals rfl
      · refine ⟨p1, by omega, by omega, by omega, by omega, by omega, by omega, by omega, by omega, by omega⟩
end
