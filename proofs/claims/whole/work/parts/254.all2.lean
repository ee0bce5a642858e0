/-! the reader: all lines, both -/
section
variable {N : Nat} {z : Int} {c r : Int → Int}
def AllR (N : Nat) (z : Int) (c r : Int → Int) (X : Option (Int × Int × Int × Int × Int × Int × Int × Int × Int × Int × Int × (Int → Int) × (Int → Int) × (Int → Int) × (Int → Int) × (Int → Int))) (Y : Option (Int × Int × Int × Int × Int × Int × Int × Int × Int × Int × Int × (Int → Int) × (Int → Int) × (Int → Int))) : Prop := ∃ ats' le' mo' tl' ln' fk' fp' k' s' e' v' sc' go' ba' op' co' ok ra' at' bg' tk' va' bd' rd' it' rr', X = some (ats', ln', le', mo', fk', fp', tl', k', s', e', v', sc', go', ba', op', co') ∧ Y = some (ok, 0, fk', fp', ra', ln', at', bg', tk', va', bd', rd', it', rr') ∧ ((fk' = 0 ∧ ok = 1) ∨ (fk' ≠ 0 ∧ ok = 0)) ∧ FR fk' fp' ∧ CT z k' s' e' v' ∧ CT z tk' bg' at' va' ∧ (0 ≤ ln' ∧ ln' ≤ 1601) ∧ Bx (fk' = 0 → ra' = ats' ∧ Td ats' sc' go' ba' op' rd' it' ∧ Ru tl' le' mo' co' rr')
theorem b_term {x1 x2 ats le mo tl ln fk fp k s e v at_ bg tk va bd ra : Int} {sc go ba op co rd it rr : Int → Int} (f1 f2 : Nat) (hB : Bx (fk = 0 → ra = ats ∧ Td ats sc go ba op rd it ∧ Ru tl le mo co rr)) (f : FR fk fp) (t : CT z k s e v) (t' : CT z tk bg at_ va) (q : Rs fk fp k s e v at_ bg tk va bd) (h0 : 0 ≤ ln) (h1 : ln ≤ 1601) (ht : fk ≠ 0 ∨ k = 0) : AllR N z c r (m_X7_readAll_b11 N z c 1600 x2 (f1 + 1) ats ln le mo fk fp tl k s e v sc go ba op co ln) (m_X13_reads_b98 N r x1 z (f2 + 1) fk fp ra ln at_ bg tk va bd rd it rr) := by
  obtain ⟨u1, u2, u3, u4, u5, u6, u7⟩ := id t
  obtain ⟨d1, d2, d3, d4, d5, d6, d7⟩ := id t'
  obtain ⟨l1, l2, l3, l4⟩ := id f
  have cl : m_X7_readAll_b11 N z c 1600 x2 (f1 + 1) ats ln le mo fk fp tl k s e v sc go ba op co ln = some (ats, ln, le, mo, fk, fp, tl, k, s, e, v, sc, go, ba, op, co) := by
    rw [m_X7_readAll_b11]
    by_cases w : 1600 < ln
    · repeat (first | (with_reducible refine gd_ok ?_ ?_; focus (first | omega | assumption | ((repeat' refine And.intro ?_ ?_) <;> first | omega | assumption) | fail)) | (with_reducible refine ip_ok ?_ ?_; focus (first | omega | assumption | ((repeat' refine And.intro ?_ ?_) <;> first | omega | assumption) | fail)) | (with_reducible refine in_ok ?_ ?_; focus (first | omega | assumption | ((repeat' refine And.intro ?_ ?_) <;> first | omega | assumption) | fail)) | (rw [so_bd]; try dsimp only))
      all_goals rfl
    · by_cases w1 : fk = 0
      · have k0 : k = 0 := by omega
        repeat (first | (with_reducible refine gd_ok ?_ ?_; focus (first | omega | assumption | ((repeat' refine And.intro ?_ ?_) <;> first | omega | assumption) | fail)) | (with_reducible refine ip_ok ?_ ?_; focus (first | omega | assumption | ((repeat' refine And.intro ?_ ?_) <;> first | omega | assumption) | fail)) | (with_reducible refine in_ok ?_ ?_; focus (first | omega | assumption | ((repeat' refine And.intro ?_ ?_) <;> first | omega | assumption) | fail)) | (rw [so_bd]; try dsimp only))
        all_goals rfl
      · repeat (first | (with_reducible refine gd_ok ?_ ?_; focus (first | omega | assumption | ((repeat' refine And.intro ?_ ?_) <;> first | omega | assumption) | fail)) | (with_reducible refine ip_ok ?_ ?_; focus (first | omega | assumption | ((repeat' refine And.intro ?_ ?_) <;> first | omega | assumption) | fail)) | (with_reducible refine in_ok ?_ ?_; focus (first | omega | assumption | ((repeat' refine And.intro ?_ ?_) <;> first | omega | assumption) | fail)) | (rw [so_bd]; try dsimp only))
        all_goals rfl
  rcases id q with ⟨z1, z2, z3, z4, z5, z6⟩ | ⟨z1, z2⟩
  · refine ⟨ats, le, mo, tl, ln, fk, fp, k, s, e, v, sc, go, ba, op, co, 1, ra, at_, bg, tk, va, bd, rd, it, rr, cl, ?_, Or.inl ⟨z1, rfl⟩, f, t, t', ⟨h0, h1⟩, hB⟩
    have tk0 : tk = 0 := by omega
    rw [m_X13_reads_b98]
    repeat (first | (with_reducible refine gd_ok ?_ ?_; focus (first | omega | assumption | ((repeat' refine And.intro ?_ ?_) <;> first | omega | assumption) | fail)) | (with_reducible refine ip_ok ?_ ?_; focus (first | omega | assumption | ((repeat' refine And.intro ?_ ?_) <;> first | omega | assumption) | fail)) | (with_reducible refine in_ok ?_ ?_; focus (first | omega | assumption | ((repeat' refine And.intro ?_ ?_) <;> first | omega | assumption) | fail)) | (rw [so_bd]; try dsimp only))
    rw [m_X13_reads_b120]
    repeat (first | (with_reducible refine gd_ok ?_ ?_; focus (first | omega | assumption | ((repeat' refine And.intro ?_ ?_) <;> first | omega | assumption) | fail)) | (with_reducible refine ip_ok ?_ ?_; focus (first | omega | assumption | ((repeat' refine And.intro ?_ ?_) <;> first | omega | assumption) | fail)) | (with_reducible refine in_ok ?_ ?_; focus (first | omega | assumption | ((repeat' refine And.intro ?_ ?_) <;> first | omega | assumption) | fail)) | (rw [so_bd]; try dsimp only))
    all_goals rfl
  · refine ⟨ats, le, mo, tl, ln, fk, fp, k, s, e, v, sc, go, ba, op, co, 0, ra, at_, bg, tk, va, bd, rd, it, rr, cl, ?_, Or.inr ⟨z1, rfl⟩, f, t, t', ⟨h0, h1⟩, hB⟩
    rw [m_X13_reads_b98]
    repeat (first | (with_reducible refine gd_ok ?_ ?_; focus (first | omega | assumption | ((repeat' refine And.intro ?_ ?_) <;> first | omega | assumption) | fail)) | (with_reducible refine ip_ok ?_ ?_; focus (first | omega | assumption | ((repeat' refine And.intro ?_ ?_) <;> first | omega | assumption) | fail)) | (with_reducible refine in_ok ?_ ?_; focus (first | omega | assumption | ((repeat' refine And.intro ?_ ?_) <;> first | omega | assumption) | fail)) | (rw [so_bd]; try dsimp only))
    rw [m_X13_reads_b120]
    repeat (first | (with_reducible refine gd_ok ?_ ?_; focus (first | omega | assumption | ((repeat' refine And.intro ?_ ?_) <;> first | omega | assumption) | fail)) | (with_reducible refine ip_ok ?_ ?_; focus (first | omega | assumption | ((repeat' refine And.intro ?_ ?_) <;> first | omega | assumption) | fail)) | (with_reducible refine in_ok ?_ ?_; focus (first | omega | assumption | ((repeat' refine And.intro ?_ ?_) <;> first | omega | assumption) | fail)) | (rw [so_bd]; try dsimp only))
    all_goals rfl
theorem b_all (hN : 40000 ≤ N) (h : TpR z c r) {x1 x2 : Int} (hx : (x2 = 0 ∧ x1 = 1) ∨ (x2 = 1 ∧ x1 = 0)) : ∀ (d : Nat) (ats le mo tl ln fk fp k s e v at_ bg tk va bd ra : Int) (sc go ba op co rd it rr : Int → Int) (f1 f2 : Nat), (z - e).toNat ≤ d → d + 1 < f1 → d + 1 < f2 → Bx (fk = 0 → ra = ats ∧ Td ats sc go ba op rd it ∧ Ru tl le mo co rr) → FR fk fp → CT z k s e v → CT z tk bg at_ va → Rs fk fp k s e v at_ bg tk va bd → 0 ≤ ln → ln ≤ 1601 → (fk = 0 → k ≠ 0 → ln < e) → AllR N z c r (m_X7_readAll_b11 N z c 1600 x2 f1 ats ln le mo fk fp tl k s e v sc go ba op co ln) (m_X13_reads_b98 N r x1 z f2 fk fp ra ln at_ bg tk va bd rd it rr) := by
  obtain ⟨hz, hk⟩ := id h
  intro d
  induction d with
  | zero =>
    intro ats le mo tl ln fk fp k s e v at_ bg tk va bd ra sc go ba op co rd it rr f1 f2 hd h1 h2 hB f t t' q l0 l1 le1
    obtain ⟨f1, rfl⟩ : ∃ k, f1 = k + 1 + 1 := ⟨f1 - 2, by omega⟩
    obtain ⟨f2, rfl⟩ : ∃ k, f2 = k + 1 + 1 := ⟨f2 - 2, by omega⟩
    by_cases w : fk ≠ 0 ∨ k = 0
    · exact b_term (f1 + 1) (f2 + 1) hB f t t' q l0 l1 w
    · have fk0 : fk = 0 := by omega
      have k0 : k ≠ 0 := by omega
      have lt := le1 fk0 k0
      have te := t.2.2.1
      subst fk0
      obtain ⟨ra0, hT, hR⟩ := hB.v rfl
      have bd0 : bd = 0 := by
        rcases q with w | w
        · exact w.2.1
        · exact absurd rfl w.1
      subst bd0 ra0
      obtain ⟨ats', le', mo', fk', fp', tl', k', s', e', v', sc', go', ba', op', co', ra', at', bg', tk', va', bd', rd', it', rr', y1, y2, y3, y4, y5, y6, y7, y8, y9⟩ := b_iter (N := N) hN h (ln := ln) (y := ln) hx hT hR f t t' q k0 (by omega) (f1 + 1) (f2 + 1)
      rw [y1, y2]
      have te' := y4.2.2.1
      exact b_term f1 f2 y9 y3 y4 y5 y6 (by omega) (by omega) (by omega)
  | succ d ih =>
    intro ats le mo tl ln fk fp k s e v at_ bg tk va bd ra sc go ba op co rd it rr f1 f2 hd h1 h2 hB f t t' q l0 l1 le1
    obtain ⟨f1, rfl⟩ : ∃ k, f1 = k + 1 + 1 := ⟨f1 - 2, by omega⟩
    obtain ⟨f2, rfl⟩ : ∃ k, f2 = k + 1 + 1 := ⟨f2 - 2, by omega⟩
    by_cases w : fk ≠ 0 ∨ k = 0
    · exact b_term (f1 + 1) (f2 + 1) hB f t t' q l0 l1 w
    · have fk0 : fk = 0 := by omega
      have k0 : k ≠ 0 := by omega
      have lt := le1 fk0 k0
      have te := t.2.2.1
      subst fk0
      obtain ⟨ra0, hT, hR⟩ := hB.v rfl
      have bd0 : bd = 0 := by
        rcases q with w | w
        · exact w.2.1
        · exact absurd rfl w.1
      subst bd0 ra0
      obtain ⟨ats', le', mo', fk', fp', tl', k', s', e', v', sc', go', ba', op', co', ra', at', bg', tk', va', bd', rd', it', rr', y1, y2, y3, y4, y5, y6, y7, y8, y9⟩ := b_iter (N := N) hN h (ln := ln) (y := ln) hx hT hR f t t' q k0 (by omega) (f1 + 1) (f2 + 1)
      rw [y1, y2]
      have te' := y4.2.2.1
      by_cases w' : fk' ≠ 0 ∨ k' = 0
      · exact b_term f1 f2 y9 y3 y4 y5 y6 (by omega) (by omega) w'
      · exact ih _ _ _ _ _ _ _ _ _ _ _ _ _ _ _ _ _ _ _ _ _ _ _ _ _ (f1 + 1) (f2 + 1) (by omega) (by omega) (by omega) y9 y3 y4 y5 y6 (by omega) (by omega) (fun a b => by have := y8 a b; omega)
end
