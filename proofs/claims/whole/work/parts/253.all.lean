/-! the reader: all lines -/
section
variable {N : Nat} {z : Int} {c r : Int → Int}
set_option maxHeartbeats 2000000 in
theorem b_iter (hN : 40000 ≤ N) (h : TpR z c r) {x1 x2 ats le mo tl ln fp k s e v at_ bg tk va y : Int} {sc go ba op co rd it rr : Int → Int} (hx : (x2 = 0 ∧ x1 = 1) ∨ (x2 = 1 ∧ x1 = 0)) (hT : Td ats sc go ba op rd it) (hR : Ru tl le mo co rr) (f : FR 0 fp) (t : CT z k s e v) (t' : CT z tk bg at_ va) (q : Rs 0 fp k s e v at_ bg tk va 0) (k0 : k ≠ 0) (hy : 0 ≤ y ∧ y ≤ 1600) (f1 f2 : Nat) : ∃ ats' le' mo' fk' fp' tl' k' s' e' v' sc' go' ba' op' co' ra' at' bg' tk' va' bd' rd' it' rr', m_X7_readAll_b11 N z c 1600 x2 (f1 + 1) ats ln le mo 0 fp tl k s e v sc go ba op co y = m_X7_readAll_b11 N z c 1600 x2 f1 ats' (ln + 1) le' mo' fk' fp' tl' k' s' e' v' sc' go' ba' op' co' (y + 1) ∧ m_X13_reads_b98 N r x1 z (f2 + 1) 0 fp ats ln at_ bg tk va 0 rd it rr = m_X13_reads_b98 N r x1 z f2 fk' fp' ra' (ln + 1) at' bg' tk' va' bd' rd' it' rr' ∧ FR fk' fp' ∧ CT z k' s' e' v' ∧ CT z tk' bg' at' va' ∧ Rs fk' fp' k' s' e' v' at' bg' tk' va' bd' ∧ e ≤ e' ∧ (fk' = 0 → k' ≠ 0 → e < e') ∧ Bx (fk' = 0 → ra' = ats' ∧ Td ats' sc' go' ba' op' rd' it' ∧ Ru tl' le' mo' co' rr') := by
  obtain ⟨hz, hk⟩ := id h
  have q' : tk = k := by
    rcases q with w | w
    · exact w.2.2.1
    · exact absurd rfl w.1
  obtain ⟨ats', le', mo', fk1, fp1, tl', k1, s1, e1, v1, sc', go', ba', op', co', ra', at1, bg1, tk1, va1, bd1, rd', it', rr', y1, y2, y3, y4, y5, y6, y7, y8⟩ := b_line (N := N) hN h (ln := ln) hx hT hR f t t' q
  replace y8 := Bx.mk y8
  obtain ⟨u1, u2, u3, u4, u5, u6, u7⟩ := id t
  obtain ⟨g1, g2, g3, g4, g5, g6, g7⟩ := id y4
  obtain ⟨d1, d2, d3, d4, d5, d6, d7⟩ := id y5
  obtain ⟨l1, l2, l3, l4⟩ := id y3
  have fin : ∃ fk2 fp2 bd2, ((k1 = 3 ∧ fk2 = fk1 ∧ fp2 = fp1) ∨ (k1 ≠ 3 ∧ m_X7_fail N s1 fk1 fp1 1 = some (fk2, fp2))) ∧ m_X13_readsLine_b98 N z r x1 fk1 fp1 ra' ln at1 bg1 tk1 va1 bd1 rd' it' rr' = m_X13_readsLine_b118 N z r x1 fk2 fp2 ra' ln at1 bg1 tk1 va1 bd2 rd' it' rr' ∧ FR fk2 fp2 ∧ Rs fk2 fp2 k1 s1 e1 v1 at1 bg1 tk1 va1 bd2 ∧ (fk2 = 0 → fk1 = 0) := by
    obtain ⟨fk2, fp2, o1, o2, o3, o4⟩ := b_fail (N := N) (x := 1) hz.2 y3 y4 y6 (by omega)
    rcases id y6 with ⟨z1, z2, z3, z4, z5, z6⟩ | ⟨z1, z2⟩
    · by_cases w : k1 = 3
      · refine ⟨fk1, fp1, bd1, Or.inl ⟨w, rfl, rfl⟩, ?_, y3, y6, id⟩
        rw [m_X13_readsLine_b98]
        repeat (first | (with_reducible refine gd_ok ?_ ?_; focus (first | omega | assumption | ((repeat' refine And.intro ?_ ?_) <;> first | omega | assumption) | fail)) | (with_reducible refine ip_ok ?_ ?_; focus (first | omega | assumption | ((repeat' refine And.intro ?_ ?_) <;> first | omega | assumption) | fail)) | (with_reducible refine in_ok ?_ ?_; focus (first | omega | assumption | ((repeat' refine And.intro ?_ ?_) <;> first | omega | assumption) | fail)) | (rw [so_bd]; try dsimp only))
        all_goals rfl
      · refine ⟨fk2, fp2, 1, Or.inr ⟨w, o1⟩, ?_, o3, Or.inr ⟨o4, rfl⟩, fun w => absurd w o4⟩
        rw [m_X13_readsLine_b98]
        repeat (first | (with_reducible refine gd_ok ?_ ?_; focus (first | omega | assumption | ((repeat' refine And.intro ?_ ?_) <;> first | omega | assumption) | fail)) | (with_reducible refine ip_ok ?_ ?_; focus (first | omega | assumption | ((repeat' refine And.intro ?_ ?_) <;> first | omega | assumption) | fail)) | (with_reducible refine in_ok ?_ ?_; focus (first | omega | assumption | ((repeat' refine And.intro ?_ ?_) <;> first | omega | assumption) | fail)) | (rw [o2, so_bd]; try dsimp only) | (rw [so_bd]; try dsimp only))
        all_goals rfl
    · refine ⟨fk1, fp1, bd1, ?_, ?_, y3, y6, id⟩
      · by_cases w : k1 = 3
        · exact Or.inl ⟨w, rfl, rfl⟩
        · exact Or.inr ⟨w, c_fa1 y3 z1⟩
      · rw [m_X13_readsLine_b98]
        repeat (first | (with_reducible refine gd_ok ?_ ?_; focus (first | omega | assumption | ((repeat' refine And.intro ?_ ?_) <;> first | omega | assumption) | fail)) | (with_reducible refine ip_ok ?_ ?_; focus (first | omega | assumption | ((repeat' refine And.intro ?_ ?_) <;> first | omega | assumption) | fail)) | (with_reducible refine in_ok ?_ ?_; focus (first | omega | assumption | ((repeat' refine And.intro ?_ ?_) <;> first | omega | assumption) | fail)) | (rw [so_bd]; try dsimp only))
        all_goals rfl
  obtain ⟨fk2, fp2, bd2, m1, m2, m3, m4, m5⟩ := fin
  replace m1 := Bx.mk m1
  obtain ⟨at2, bg2, tk2, va2, n1, n2, n3⟩ := r_passes (N := N) hN h m3 y4 y5 m4
  obtain ⟨k3, s3, e3, v3, p1, p2, p3, p4, p5⟩ := c_step (N := N) h m3 y4 n2 n3
  refine ⟨ats', le', mo', fk2, fp2, tl', k3, s3, e3, v3, sc', go', ba', op', co', ra', at2, bg2, tk2, va2, bd2, rd', it', rr', ?_, ?_, m3, p2, n2, p5, by omega, fun w w' => by have := p4 w w'; omega, Bx.mk (fun w => y8.v (m5 w))⟩
  · have b51 : m_X7_readAll_b51 N z c 1600 x2 (m_X7_readAll_b11 N z c 1600 x2 f1) ats' ln le' mo' fk2 fp2 tl' k1 s1 e1 v1 sc' go' ba' op' co' y = m_X7_readAll_b11 N z c 1600 x2 f1 ats' (ln + 1) le' mo' fk2 fp2 tl' k3 s3 e3 v3 sc' go' ba' op' co' (y + 1) := by
      rw [m_X7_readAll_b51]
      repeat (first | (with_reducible refine gd_ok ?_ ?_; focus (first | omega | assumption | ((repeat' refine And.intro ?_ ?_) <;> first | omega | assumption) | fail)) | (with_reducible refine ip_ok ?_ ?_; focus (first | omega | assumption | ((repeat' refine And.intro ?_ ?_) <;> first | omega | assumption) | fail)) | (with_reducible refine in_ok ?_ ?_; focus (first | omega | assumption | ((repeat' refine And.intro ?_ ?_) <;> first | omega | assumption) | fail)) | (rw [p1, so_bd]; try dsimp only) | (rw [so_bd]; try dsimp only))
      all_goals rfl
    rw [m_X7_readAll_b11]
    rcases m1.v with ⟨w, w1, w2⟩ | ⟨w, w1⟩
    · rw [w1, w2] at b51
      repeat (first | (with_reducible refine gd_ok ?_ ?_; focus (first | omega | assumption | ((repeat' refine And.intro ?_ ?_) <;> first | omega | assumption) | fail)) | (with_reducible refine ip_ok ?_ ?_; focus (first | omega | assumption | ((repeat' refine And.intro ?_ ?_) <;> first | omega | assumption) | fail)) | (with_reducible refine in_ok ?_ ?_; focus (first | omega | assumption | ((repeat' refine And.intro ?_ ?_) <;> first | omega | assumption) | fail)) | (rw [y1, so_bd]; try dsimp only) | (rw [so_bd]; try dsimp only))
      rw [w1, w2]
      exact b51
    · repeat (first | (with_reducible refine gd_ok ?_ ?_; focus (first | omega | assumption | ((repeat' refine And.intro ?_ ?_) <;> first | omega | assumption) | fail)) | (with_reducible refine ip_ok ?_ ?_; focus (first | omega | assumption | ((repeat' refine And.intro ?_ ?_) <;> first | omega | assumption) | fail)) | (with_reducible refine in_ok ?_ ?_; focus (first | omega | assumption | ((repeat' refine And.intro ?_ ?_) <;> first | omega | assumption) | fail)) | (rw [y1, so_bd]; try dsimp only) | (rw [w1, so_bd]; try dsimp only) | (rw [so_bd]; try dsimp only))
      exact b51
  · have b118 : m_X13_readsLine N z r 0 fp ats ln at_ bg tk va 0 rd it rr x1 = some (fk2, fp2, ra', ln + 1, at2, bg2, tk2, va2, bd2, rd', it', rr') := by
      rw [y2, m2, m_X13_readsLine_b118]
      repeat (first | (with_reducible refine gd_ok ?_ ?_; focus (first | omega | assumption | ((repeat' refine And.intro ?_ ?_) <;> first | omega | assumption) | fail)) | (with_reducible refine ip_ok ?_ ?_; focus (first | omega | assumption | ((repeat' refine And.intro ?_ ?_) <;> first | omega | assumption) | fail)) | (with_reducible refine in_ok ?_ ?_; focus (first | omega | assumption | ((repeat' refine And.intro ?_ ?_) <;> first | omega | assumption) | fail)) | (rw [n1, so_bd]; try dsimp only) | (rw [so_bd]; try dsimp only))
      all_goals rfl
    rw [m_X13_reads_b98]
    repeat (first | (with_reducible refine gd_ok ?_ ?_; focus (first | omega | assumption | ((repeat' refine And.intro ?_ ?_) <;> first | omega | assumption) | fail)) | (with_reducible refine ip_ok ?_ ?_; focus (first | omega | assumption | ((repeat' refine And.intro ?_ ?_) <;> first | omega | assumption) | fail)) | (with_reducible refine in_ok ?_ ?_; focus (first | omega | assumption | ((repeat' refine And.intro ?_ ?_) <;> first | omega | assumption) | fail)) | (rw [b118, so_bd]; try dsimp only) | (rw [so_bd]; try dsimp only))
    all_goals rfl
end
