/-! the reader: a line -/
section
variable {N : Nat} {z : Int} {c r : Int → Int}
def Ru (tl le mo : Int) (co rr : Int → Int) : Prop := ∃ a b d : Nat, a < 2 ∧ b < 2 ∧ d < 2 ∧ tl = (a : Nat) + 2 * (b : Nat) + 4 * (d : Nat) ∧ ((a = 0 ∧ rr 0 = -1 ∧ le = 1) ∨ (a = 1 ∧ rr 0 = le ∧ 0 ≤ le ∧ le ≤ 9999)) ∧ ((b = 0 ∧ rr 1 = -1 ∧ mo = 60) ∨ (b = 1 ∧ rr 1 = mo ∧ 1 ≤ mo ∧ mo ≤ 60)) ∧ ((d = 0 ∧ (rr 2 = -1 ∧ rr 3 = -1 ∧ rr 4 = -1) ∧ co 0 = 1 ∧ co 1 = 5 ∧ co 2 = 1) ∨ (d = 1 ∧ (rr 2 = co 0 ∧ rr 3 = co 1 ∧ rr 4 = co 2) ∧ (0 ≤ co 0 ∧ co 0 ≤ 999) ∧ (0 ≤ co 1 ∧ co 1 ≤ 999) ∧ (0 ≤ co 2 ∧ co 2 ≤ 999)))
theorem b_tell {fp k s e v at_ bg tk va tl w x m lo hi : Int} {rr : Int → Int} (hz : z ≤ 1600) (hx : 0 ≤ x ∧ x < 5) (hA : (iAnd tl w = 0 ∧ rr x = -1) ∨ (iAnd tl w ≠ 0 ∧ rr x ≠ -1)) (ha : 0 ≤ iAnd tl w ∧ iAnd tl w ≤ 7) (hr : -1 ≤ rr x ∧ rr x ≤ 9999) (f : FR 0 fp) (t : CT z k s e v) (q : Rs 0 fp k s e v at_ bg tk va 0) : ∃ fk' fp' bd', m_X7_tellOnce N s 0 fp tl w = some (fk', fp', iOr tl w) ∧ m_X13_readsRule N z r 0 fp at_ bg tk va 0 rr x m lo hi = m_X13_readsRule_b15 N z r x m lo hi fk' fp' at_ bg tk va bd' rr ∧ FR fk' fp' ∧ Rs fk' fp' k s e v at_ bg tk va bd' ∧ (fk' = 0 → iAnd tl w = 0) := by
  rcases hA with ⟨h1, h2⟩ | ⟨h1, h2⟩
  · refine ⟨0, fp, 0, ?_, ?_, f, q, fun _ => h1⟩
    · rw [m_X7_tellOnce]
      repeat (first | (with_reducible refine gd_ok ?_ ?_; focus (first | omega | assumption | ((repeat' refine And.intro ?_ ?_) <;> first | omega | assumption) | fail)) | (with_reducible refine ip_ok ?_ ?_; focus (first | omega | assumption | ((repeat' refine And.intro ?_ ?_) <;> first | omega | assumption) | fail)) | (with_reducible refine in_ok ?_ ?_; focus (first | omega | assumption | ((repeat' refine And.intro ?_ ?_) <;> first | omega | assumption) | fail)) | (rw [so_bd]; try dsimp only))
      all_goals rfl
    · rw [m_X13_readsRule]
      repeat (first | (with_reducible refine gd_ok ?_ ?_; focus (first | omega | assumption | ((repeat' refine And.intro ?_ ?_) <;> first | omega | assumption) | fail)) | (with_reducible refine ip_ok ?_ ?_; focus (first | omega | assumption | ((repeat' refine And.intro ?_ ?_) <;> first | omega | assumption) | fail)) | (with_reducible refine in_ok ?_ ?_; focus (first | omega | assumption | ((repeat' refine And.intro ?_ ?_) <;> first | omega | assumption) | fail)) | (rw [so_bd]; try dsimp only))
      all_goals rfl
  · obtain ⟨fk', fp', o1, o2, o3, o4⟩ := b_fail (N := N) (x := 3) hz f t q (by omega)
    refine ⟨fk', fp', 1, ?_, ?_, o3, Or.inr ⟨o4, rfl⟩, fun w => absurd w o4⟩
    · rw [m_X7_tellOnce]
      repeat (first | (with_reducible refine gd_ok ?_ ?_; focus (first | omega | assumption | ((repeat' refine And.intro ?_ ?_) <;> first | omega | assumption) | fail)) | (with_reducible refine ip_ok ?_ ?_; focus (first | omega | assumption | ((repeat' refine And.intro ?_ ?_) <;> first | omega | assumption) | fail)) | (with_reducible refine in_ok ?_ ?_; focus (first | omega | assumption | ((repeat' refine And.intro ?_ ?_) <;> first | omega | assumption) | fail)) | (rw [o1, so_bd]; try dsimp only) | (rw [so_bd]; try dsimp only))
      all_goals rfl
    · rw [m_X13_readsRule]
      repeat (first | (with_reducible refine gd_ok ?_ ?_; focus (first | omega | assumption | ((repeat' refine And.intro ?_ ?_) <;> first | omega | assumption) | fail)) | (with_reducible refine ip_ok ?_ ?_; focus (first | omega | assumption | ((repeat' refine And.intro ?_ ?_) <;> first | omega | assumption) | fail)) | (with_reducible refine in_ok ?_ ?_; focus (first | omega | assumption | ((repeat' refine And.intro ?_ ?_) <;> first | omega | assumption) | fail)) | (rw [o2, so_bd]; try dsimp only) | (rw [so_bd]; try dsimp only))
      all_goals rfl
set_option maxHeartbeats 2000000 in
theorem b_line (hN : 40000 ≤ N) (h : TpR z c r) {x1 x2 ats le mo tl ln fp k s e v at_ bg tk va : Int} {sc go ba op co rd it rr : Int → Int} (hx : (x2 = 0 ∧ x1 = 1) ∨ (x2 = 1 ∧ x1 = 0)) (hT : Td ats sc go ba op rd it) (hR : Ru tl le mo co rr) (f : FR 0 fp) (t : CT z k s e v) (t' : CT z tk bg at_ va) (q : Rs 0 fp k s e v at_ bg tk va 0) : ∃ ats' le' mo' fk' fp' tl' k' s' e' v' sc' go' ba' op' co' ra' at' bg' tk' va' bd' rd' it' rr', m_X7_readLine N z c 1600 ats le mo 0 fp tl k s e v sc go ba op co x2 = some (ats', le', mo', fk', fp', tl', k', s', e', v', sc', go', ba', op', co') ∧ m_X13_readsLine N z r 0 fp ats ln at_ bg tk va 0 rd it rr x1 = m_X13_readsLine_b98 N z r x1 fk' fp' ra' ln at' bg' tk' va' bd' rd' it' rr' ∧ FR fk' fp' ∧ CT z k' s' e' v' ∧ CT z tk' bg' at' va' ∧ Rs fk' fp' k' s' e' v' at' bg' tk' va' bd' ∧ e ≤ e' ∧ (fk' = 0 → ra' = ats' ∧ Td ats' sc' go' ba' op' rd' it' ∧ Ru tl' le' mo' co' rr') := by
  obtain ⟨hz, hk⟩ := id h
  have q' : tk = k ∧ bg = s ∧ at_ = e := by
    rcases q with w | w
    · exact ⟨w.2.2.1, w.2.2.2.1, w.2.2.2.2.1⟩
    · exact absurd rfl w.1
  obtain ⟨e1, e2, e3⟩ := q'
  subst e1 e2 e3
  obtain ⟨b0, c0, -, i0, j0⟩ := word (N := N) hN h (x := 0) (by omega) t
  obtain ⟨b1, c1, -, i1, j1⟩ := word (N := N) hN h (x := 1) (by omega) t
  obtain ⟨b2, c2, -, i2, j2⟩ := word (N := N) hN h (x := 2) (by omega) t
  obtain ⟨b3, c3, -, i3, j3⟩ := word (N := N) hN h (x := 3) (by omega) t
  by_cases w0 : b0 = 0
  · obtain ⟨fk1, fp1, o1, o2, o3, o4⟩ := b_fail (N := N) (x := 1) hz.2 f t q (by omega)
    have cF : m_X7_readLine_b156 N z c 1600 x2 ats le mo 0 fp tl tk bg at_ v sc go ba op co = some (ats, le, mo, fk1, fp1, tl, tk, bg, at_, v, sc, go, ba, op, co) := by
      rw [m_X7_readLine_b156]
      repeat (first | (with_reducible refine gd_ok ?_ ?_; focus (first | omega | assumption | ((repeat' refine And.intro ?_ ?_) <;> first | omega | assumption) | fail)) | (with_reducible refine ip_ok ?_ ?_; focus (first | omega | assumption | ((repeat' refine And.intro ?_ ?_) <;> first | omega | assumption) | fail)) | (with_reducible refine in_ok ?_ ?_; focus (first | omega | assumption | ((repeat' refine And.intro ?_ ?_) <;> first | omega | assumption) | fail)) | (rw [o1, so_bd]; try dsimp only) | (rw [so_bd]; try dsimp only))
      all_goals rfl
    have rF : m_X13_readsLine_b93 N z r x1 0 fp ats ln at_ bg tk va 0 rd it rr = m_X13_readsLine_b98 N z r x1 fk1 fp1 ats ln at_ bg tk va 1 rd it rr := by
      rw [m_X13_readsLine_b93]
      repeat (first | (with_reducible refine gd_ok ?_ ?_; focus (first | omega | assumption | ((repeat' refine And.intro ?_ ?_) <;> first | omega | assumption) | fail)) | (with_reducible refine ip_ok ?_ ?_; focus (first | omega | assumption | ((repeat' refine And.intro ?_ ?_) <;> first | omega | assumption) | fail)) | (with_reducible refine in_ok ?_ ?_; focus (first | omega | assumption | ((repeat' refine And.intro ?_ ?_) <;> first | omega | assumption) | fail)) | (rw [o2, so_bd]; try dsimp only) | (rw [so_bd]; try dsimp only))
      all_goals rfl
    rcases hx with ⟨hx2, hx1⟩ | ⟨hx2, hx1⟩
    · subst hx2 hx1
      obtain ⟨A, B, D, hA, hB, hD, hl, r1, r2, r3⟩ := id hR
      obtain ⟨t1, t1'⟩ := bit1 A hA B hB D hD
      obtain ⟨t2, t2'⟩ := bit2 A hA B hB D hD
      obtain ⟨t4, t4'⟩ := bit4 A hA B hB D hD
      rw [← hl] at t1 t1' t2 t2' t4 t4'
      by_cases w1 : b1 = 0
      · by_cases w2 : b2 = 0
        · by_cases w3 : b3 = 0
          · refine ⟨ats, le, mo, fk1, fp1, tl, tk, bg, at_, v, sc, go, ba, op, co, ats, at_, bg, tk, va, 1, rd, it, rr, ?_, ?_, o3, t, t', Or.inr ⟨o4, rfl⟩, Int.le_refl _, fun w => absurd w o4⟩
            · rw [m_X7_readLine]
              repeat (first | (with_reducible refine gd_ok ?_ ?_; focus (first | omega | assumption | ((repeat' refine And.intro ?_ ?_) <;> first | omega | assumption) | fail)) | (with_reducible refine ip_ok ?_ ?_; focus (first | omega | assumption | ((repeat' refine And.intro ?_ ?_) <;> first | omega | assumption) | fail)) | (with_reducible refine in_ok ?_ ?_; focus (first | omega | assumption | ((repeat' refine And.intro ?_ ?_) <;> first | omega | assumption) | fail)) | (rw [i0, so_bd]; try dsimp only) | (rw [i1, so_bd]; try dsimp only) | (rw [so_bd]; try dsimp only))
              rw [m_X7_readLine_b58]
              repeat (first | (with_reducible refine gd_ok ?_ ?_; focus (first | omega | assumption | ((repeat' refine And.intro ?_ ?_) <;> first | omega | assumption) | fail)) | (with_reducible refine ip_ok ?_ ?_; focus (first | omega | assumption | ((repeat' refine And.intro ?_ ?_) <;> first | omega | assumption) | fail)) | (with_reducible refine in_ok ?_ ?_; focus (first | omega | assumption | ((repeat' refine And.intro ?_ ?_) <;> first | omega | assumption) | fail)) | (rw [i2, so_bd]; try dsimp only) | (rw [so_bd]; try dsimp only))
              rw [m_X7_readLine_b97]
              repeat (first | (with_reducible refine gd_ok ?_ ?_; focus (first | omega | assumption | ((repeat' refine And.intro ?_ ?_) <;> first | omega | assumption) | fail)) | (with_reducible refine ip_ok ?_ ?_; focus (first | omega | assumption | ((repeat' refine And.intro ?_ ?_) <;> first | omega | assumption) | fail)) | (with_reducible refine in_ok ?_ ?_; focus (first | omega | assumption | ((repeat' refine And.intro ?_ ?_) <;> first | omega | assumption) | fail)) | (rw [i3, so_bd]; try dsimp only) | (rw [so_bd]; try dsimp only))
              exact cF
            · rw [m_X13_readsLine]
              repeat (first | (with_reducible refine gd_ok ?_ ?_; focus (first | omega | assumption | ((repeat' refine And.intro ?_ ?_) <;> first | omega | assumption) | fail)) | (with_reducible refine ip_ok ?_ ?_; focus (first | omega | assumption | ((repeat' refine And.intro ?_ ?_) <;> first | omega | assumption) | fail)) | (with_reducible refine in_ok ?_ ?_; focus (first | omega | assumption | ((repeat' refine And.intro ?_ ?_) <;> first | omega | assumption) | fail)) | (rw [j0, so_bd]; try dsimp only) | (rw [j1, so_bd]; try dsimp only) | (rw [so_bd]; try dsimp only))
              rw [m_X13_readsLine_b42]
              repeat (first | (with_reducible refine gd_ok ?_ ?_; focus (first | omega | assumption | ((repeat' refine And.intro ?_ ?_) <;> first | omega | assumption) | fail)) | (with_reducible refine ip_ok ?_ ?_; focus (first | omega | assumption | ((repeat' refine And.intro ?_ ?_) <;> first | omega | assumption) | fail)) | (with_reducible refine in_ok ?_ ?_; focus (first | omega | assumption | ((repeat' refine And.intro ?_ ?_) <;> first | omega | assumption) | fail)) | (rw [j2, so_bd]; try dsimp only) | (rw [so_bd]; try dsimp only))
              rw [m_X13_readsLine_b67]
              repeat (first | (with_reducible refine gd_ok ?_ ?_; focus (first | omega | assumption | ((repeat' refine And.intro ?_ ?_) <;> first | omega | assumption) | fail)) | (with_reducible refine ip_ok ?_ ?_; focus (first | omega | assumption | ((repeat' refine And.intro ?_ ?_) <;> first | omega | assumption) | fail)) | (with_reducible refine in_ok ?_ ?_; focus (first | omega | assumption | ((repeat' refine And.intro ?_ ?_) <;> first | omega | assumption) | fail)) | (rw [j3, so_bd]; try dsimp only) | (rw [so_bd]; try dsimp only))
              exact rF
          · obtain ⟨fk2, fp2, bd2, u1, u2, u3, u4, u5⟩ := b_tell (N := N) (r := r) (x := 2) (w := 4) (m := 3) (lo := 0) (hi := 999) (tl := tl) (rr := rr) hz.2 (by omega) (by omega) (by omega) (by omega) f t q
            obtain ⟨n1, n2, n3, m1, m2, m3, fk', fp', k', s', e', v', at', bg', tk', va', bd', y1, y2, y3, y4, y5, y6, y7, y8, y9, y10⟩ := b_rule3 (N := N) hN h (x2 := 0) (ats := ats) (le := le) (mo := mo) (tl := iOr tl 4) (rr := rr) (sc := sc) (go := go) (ba := ba) (op := op) (co := co) u3 t t' u4
            refine ⟨ats, le, mo, fk', fp', iOr tl 4, k', s', e', v', sc, go, ba, op, uP (uP (uP co 0 n1) 1 n2) 2 n3, ats, at', bg', tk', va', bd', rd, it, uP (uP (uP rr 2 m1) 3 m2) 4 m3, ?_, ?_, y3, y4, y5, y6, y7, fun w => ⟨rfl, hT, ?_⟩⟩
            · rw [m_X7_readLine]
              repeat (first | (with_reducible refine gd_ok ?_ ?_; focus (first | omega | assumption | ((repeat' refine And.intro ?_ ?_) <;> first | omega | assumption) | fail)) | (with_reducible refine ip_ok ?_ ?_; focus (first | omega | assumption | ((repeat' refine And.intro ?_ ?_) <;> first | omega | assumption) | fail)) | (with_reducible refine in_ok ?_ ?_; focus (first | omega | assumption | ((repeat' refine And.intro ?_ ?_) <;> first | omega | assumption) | fail)) | (rw [i0, so_bd]; try dsimp only) | (rw [i1, so_bd]; try dsimp only) | (rw [so_bd]; try dsimp only))
              rw [m_X7_readLine_b58]
              repeat (first | (with_reducible refine gd_ok ?_ ?_; focus (first | omega | assumption | ((repeat' refine And.intro ?_ ?_) <;> first | omega | assumption) | fail)) | (with_reducible refine ip_ok ?_ ?_; focus (first | omega | assumption | ((repeat' refine And.intro ?_ ?_) <;> first | omega | assumption) | fail)) | (with_reducible refine in_ok ?_ ?_; focus (first | omega | assumption | ((repeat' refine And.intro ?_ ?_) <;> first | omega | assumption) | fail)) | (rw [i2, so_bd]; try dsimp only) | (rw [so_bd]; try dsimp only))
              rw [m_X7_readLine_b97]
              repeat (first | (with_reducible refine gd_ok ?_ ?_; focus (first | omega | assumption | ((repeat' refine And.intro ?_ ?_) <;> first | omega | assumption) | fail)) | (with_reducible refine ip_ok ?_ ?_; focus (first | omega | assumption | ((repeat' refine And.intro ?_ ?_) <;> first | omega | assumption) | fail)) | (with_reducible refine in_ok ?_ ?_; focus (first | omega | assumption | ((repeat' refine And.intro ?_ ?_) <;> first | omega | assumption) | fail)) | (rw [i3, so_bd]; try dsimp only) | (rw [u1, so_bd]; try dsimp only) | (rw [so_bd]; try dsimp only))
              exact y1
            · rw [m_X13_readsLine]
              repeat (first | (with_reducible refine gd_ok ?_ ?_; focus (first | omega | assumption | ((repeat' refine And.intro ?_ ?_) <;> first | omega | assumption) | fail)) | (with_reducible refine ip_ok ?_ ?_; focus (first | omega | assumption | ((repeat' refine And.intro ?_ ?_) <;> first | omega | assumption) | fail)) | (with_reducible refine in_ok ?_ ?_; focus (first | omega | assumption | ((repeat' refine And.intro ?_ ?_) <;> first | omega | assumption) | fail)) | (rw [j0, so_bd]; try dsimp only) | (rw [j1, so_bd]; try dsimp only) | (rw [so_bd]; try dsimp only))
              rw [m_X13_readsLine_b42]
              repeat (first | (with_reducible refine gd_ok ?_ ?_; focus (first | omega | assumption | ((repeat' refine And.intro ?_ ?_) <;> first | omega | assumption) | fail)) | (with_reducible refine ip_ok ?_ ?_; focus (first | omega | assumption | ((repeat' refine And.intro ?_ ?_) <;> first | omega | assumption) | fail)) | (with_reducible refine in_ok ?_ ?_; focus (first | omega | assumption | ((repeat' refine And.intro ?_ ?_) <;> first | omega | assumption) | fail)) | (rw [j2, so_bd]; try dsimp only) | (rw [so_bd]; try dsimp only))
              rw [m_X13_readsLine_b67]
              rw [y2] at u2
              repeat (first | (with_reducible refine gd_ok ?_ ?_; focus (first | omega | assumption | ((repeat' refine And.intro ?_ ?_) <;> first | omega | assumption) | fail)) | (with_reducible refine ip_ok ?_ ?_; focus (first | omega | assumption | ((repeat' refine And.intro ?_ ?_) <;> first | omega | assumption) | fail)) | (with_reducible refine in_ok ?_ ?_; focus (first | omega | assumption | ((repeat' refine And.intro ?_ ?_) <;> first | omega | assumption) | fail)) | (rw [j3, so_bd]; try dsimp only) | (rw [u2, so_bd]; try dsimp only) | (rw [so_bd]; try dsimp only))
              all_goals rfl
            · obtain ⟨v1, v2, v3, v4⟩ := y9 w
              subst v2 v3 v4
              refine ⟨A, B, 1, hA, hB, by omega, by omega, ?_, ?_, Or.inr ⟨rfl, ⟨rfl, rfl, rfl⟩, y8⟩⟩
              · rw [show uP (uP (uP rr 2 m1) 3 m2) 4 m3 0 = rr 0 from rfl]
                exact r1
              · rw [show uP (uP (uP rr 2 m1) 3 m2) 4 m3 1 = rr 1 from rfl]
                exact r2
        · obtain ⟨fk2, fp2, bd2, u1, u2, u3, u4, u5⟩ := b_tell (N := N) (r := r) (x := 1) (w := 2) (m := 1) (lo := 1) (hi := 60) (tl := tl) (rr := rr) hz.2 (by omega) (by omega) (by omega) (by omega) f t q
          obtain ⟨n, fk', fp', k1, s1, e1, v1, k', s', e', v', n', at', bg', tk', va', bd', y1, y2, y3, y4, y5, y6, y7, y8, y9, y10, y11⟩ := b_rule1 (N := N) hN h (x := 1) (lo := 1) (hi := 60) (rr := rr) (by omega) (by omega) (by omega) u3 t t' u4
          refine ⟨ats, le, n, fk', fp', iOr tl 2, k', s', e', v', sc, go, ba, op, co, ats, at', bg', tk', va', bd', rd, it, uP rr 1 n', ?_, ?_, y4, y5, y6, y7, y8, fun w => ⟨rfl, hT, ?_⟩⟩
          · rw [m_X7_readLine]
            repeat (first | (with_reducible refine gd_ok ?_ ?_; focus (first | omega | assumption | ((repeat' refine And.intro ?_ ?_) <;> first | omega | assumption) | fail)) | (with_reducible refine ip_ok ?_ ?_; focus (first | omega | assumption | ((repeat' refine And.intro ?_ ?_) <;> first | omega | assumption) | fail)) | (with_reducible refine in_ok ?_ ?_; focus (first | omega | assumption | ((repeat' refine And.intro ?_ ?_) <;> first | omega | assumption) | fail)) | (rw [i0, so_bd]; try dsimp only) | (rw [i1, so_bd]; try dsimp only) | (rw [so_bd]; try dsimp only))
            rw [m_X7_readLine_b58]
            repeat (first | (with_reducible refine gd_ok ?_ ?_; focus (first | omega | assumption | ((repeat' refine And.intro ?_ ?_) <;> first | omega | assumption) | fail)) | (with_reducible refine ip_ok ?_ ?_; focus (first | omega | assumption | ((repeat' refine And.intro ?_ ?_) <;> first | omega | assumption) | fail)) | (with_reducible refine in_ok ?_ ?_; focus (first | omega | assumption | ((repeat' refine And.intro ?_ ?_) <;> first | omega | assumption) | fail)) | (rw [i2, so_bd]; try dsimp only) | (rw [u1, so_bd]; try dsimp only) | (rw [y1, so_bd]; try dsimp only) | (rw [y2, so_bd]; try dsimp only) | (rw [so_bd]; try dsimp only))
            all_goals rfl
          · rw [m_X13_readsLine]
            repeat (first | (with_reducible refine gd_ok ?_ ?_; focus (first | omega | assumption | ((repeat' refine And.intro ?_ ?_) <;> first | omega | assumption) | fail)) | (with_reducible refine ip_ok ?_ ?_; focus (first | omega | assumption | ((repeat' refine And.intro ?_ ?_) <;> first | omega | assumption) | fail)) | (with_reducible refine in_ok ?_ ?_; focus (first | omega | assumption | ((repeat' refine And.intro ?_ ?_) <;> first | omega | assumption) | fail)) | (rw [j0, so_bd]; try dsimp only) | (rw [j1, so_bd]; try dsimp only) | (rw [so_bd]; try dsimp only))
            rw [m_X13_readsLine_b42]
            rw [y3] at u2
            repeat (first | (with_reducible refine gd_ok ?_ ?_; focus (first | omega | assumption | ((repeat' refine And.intro ?_ ?_) <;> first | omega | assumption) | fail)) | (with_reducible refine ip_ok ?_ ?_; focus (first | omega | assumption | ((repeat' refine And.intro ?_ ?_) <;> first | omega | assumption) | fail)) | (with_reducible refine in_ok ?_ ?_; focus (first | omega | assumption | ((repeat' refine And.intro ?_ ?_) <;> first | omega | assumption) | fail)) | (rw [j2, so_bd]; try dsimp only) | (rw [u2, so_bd]; try dsimp only) | (rw [so_bd]; try dsimp only))
            all_goals rfl
          · obtain ⟨v1, v2⟩ := y10 w
            subst v2
            exact ⟨A, 1, D, hA, by omega, hD, by omega, r1, Or.inr ⟨rfl, rfl, y9⟩, r3⟩
      · obtain ⟨fk2, fp2, bd2, u1, u2, u3, u4, u5⟩ := b_tell (N := N) (r := r) (x := 0) (w := 1) (m := 1) (lo := 0) (hi := 9999) (tl := tl) (rr := rr) hz.2 (by omega) (by omega) (by omega) (by omega) f t q
        obtain ⟨n, fk', fp', k1, s1, e1, v1, k', s', e', v', n', at', bg', tk', va', bd', y1, y2, y3, y4, y5, y6, y7, y8, y9, y10, y11⟩ := b_rule1 (N := N) hN h (x := 0) (lo := 0) (hi := 9999) (rr := rr) (by omega) (by omega) (by omega) u3 t t' u4
        refine ⟨ats, n, mo, fk', fp', iOr tl 1, k', s', e', v', sc, go, ba, op, co, ats, at', bg', tk', va', bd', rd, it, uP rr 0 n', ?_, ?_, y4, y5, y6, y7, y8, fun w => ⟨rfl, hT, ?_⟩⟩
        · rw [m_X7_readLine]
          repeat (first | (with_reducible refine gd_ok ?_ ?_; focus (first | omega | assumption | ((repeat' refine And.intro ?_ ?_) <;> first | omega | assumption) | fail)) | (with_reducible refine ip_ok ?_ ?_; focus (first | omega | assumption | ((repeat' refine And.intro ?_ ?_) <;> first | omega | assumption) | fail)) | (with_reducible refine in_ok ?_ ?_; focus (first | omega | assumption | ((repeat' refine And.intro ?_ ?_) <;> first | omega | assumption) | fail)) | (rw [i0, so_bd]; try dsimp only) | (rw [i1, so_bd]; try dsimp only) | (rw [u1, so_bd]; try dsimp only) | (rw [y1, so_bd]; try dsimp only) | (rw [y2, so_bd]; try dsimp only) | (rw [so_bd]; try dsimp only))
          all_goals rfl
        · rw [m_X13_readsLine]
          rw [y3] at u2
          repeat (first | (with_reducible refine gd_ok ?_ ?_; focus (first | omega | assumption | ((repeat' refine And.intro ?_ ?_) <;> first | omega | assumption) | fail)) | (with_reducible refine ip_ok ?_ ?_; focus (first | omega | assumption | ((repeat' refine And.intro ?_ ?_) <;> first | omega | assumption) | fail)) | (with_reducible refine in_ok ?_ ?_; focus (first | omega | assumption | ((repeat' refine And.intro ?_ ?_) <;> first | omega | assumption) | fail)) | (rw [j0, so_bd]; try dsimp only) | (rw [j1, so_bd]; try dsimp only) | (rw [u2, so_bd]; try dsimp only) | (rw [so_bd]; try dsimp only))
          all_goals rfl
        · obtain ⟨v1, v2⟩ := y10 w
          subst v2
          exact ⟨1, B, D, by omega, hB, hD, by omega, Or.inr ⟨rfl, rfl, y9⟩, r2, r3⟩
    · subst hx2 hx1
      refine ⟨ats, le, mo, fk1, fp1, tl, tk, bg, at_, v, sc, go, ba, op, co, ats, at_, bg, tk, va, 1, rd, it, rr, ?_, ?_, o3, t, t', Or.inr ⟨o4, rfl⟩, Int.le_refl _, fun w => absurd w o4⟩
      · rw [m_X7_readLine]
        repeat (first | (with_reducible refine gd_ok ?_ ?_; focus (first | omega | assumption | ((repeat' refine And.intro ?_ ?_) <;> first | omega | assumption) | fail)) | (with_reducible refine ip_ok ?_ ?_; focus (first | omega | assumption | ((repeat' refine And.intro ?_ ?_) <;> first | omega | assumption) | fail)) | (with_reducible refine in_ok ?_ ?_; focus (first | omega | assumption | ((repeat' refine And.intro ?_ ?_) <;> first | omega | assumption) | fail)) | (rw [i0, so_bd]; try dsimp only) | (rw [so_bd]; try dsimp only))
        rw [m_X7_readLine_b58]
        repeat (first | (with_reducible refine gd_ok ?_ ?_; focus (first | omega | assumption | ((repeat' refine And.intro ?_ ?_) <;> first | omega | assumption) | fail)) | (with_reducible refine ip_ok ?_ ?_; focus (first | omega | assumption | ((repeat' refine And.intro ?_ ?_) <;> first | omega | assumption) | fail)) | (with_reducible refine in_ok ?_ ?_; focus (first | omega | assumption | ((repeat' refine And.intro ?_ ?_) <;> first | omega | assumption) | fail)) | (rw [so_bd]; try dsimp only))
        rw [m_X7_readLine_b97]
        repeat (first | (with_reducible refine gd_ok ?_ ?_; focus (first | omega | assumption | ((repeat' refine And.intro ?_ ?_) <;> first | omega | assumption) | fail)) | (with_reducible refine ip_ok ?_ ?_; focus (first | omega | assumption | ((repeat' refine And.intro ?_ ?_) <;> first | omega | assumption) | fail)) | (with_reducible refine in_ok ?_ ?_; focus (first | omega | assumption | ((repeat' refine And.intro ?_ ?_) <;> first | omega | assumption) | fail)) | (rw [so_bd]; try dsimp only))
        exact cF
      · rw [m_X13_readsLine]
        repeat (first | (with_reducible refine gd_ok ?_ ?_; focus (first | omega | assumption | ((repeat' refine And.intro ?_ ?_) <;> first | omega | assumption) | fail)) | (with_reducible refine ip_ok ?_ ?_; focus (first | omega | assumption | ((repeat' refine And.intro ?_ ?_) <;> first | omega | assumption) | fail)) | (with_reducible refine in_ok ?_ ?_; focus (first | omega | assumption | ((repeat' refine And.intro ?_ ?_) <;> first | omega | assumption) | fail)) | (rw [j0, so_bd]; try dsimp only) | (rw [so_bd]; try dsimp only))
        rw [m_X13_readsLine_b42]
        repeat (first | (with_reducible refine gd_ok ?_ ?_; focus (first | omega | assumption | ((repeat' refine And.intro ?_ ?_) <;> first | omega | assumption) | fail)) | (with_reducible refine ip_ok ?_ ?_; focus (first | omega | assumption | ((repeat' refine And.intro ?_ ?_) <;> first | omega | assumption) | fail)) | (with_reducible refine in_ok ?_ ?_; focus (first | omega | assumption | ((repeat' refine And.intro ?_ ?_) <;> first | omega | assumption) | fail)) | (rw [so_bd]; try dsimp only))
        rw [m_X13_readsLine_b67]
        repeat (first | (with_reducible refine gd_ok ?_ ?_; focus (first | omega | assumption | ((repeat' refine And.intro ?_ ?_) <;> first | omega | assumption) | fail)) | (with_reducible refine ip_ok ?_ ?_; focus (first | omega | assumption | ((repeat' refine And.intro ?_ ?_) <;> first | omega | assumption) | fail)) | (with_reducible refine in_ok ?_ ?_; focus (first | omega | assumption | ((repeat' refine And.intro ?_ ?_) <;> first | omega | assumption) | fail)) | (rw [so_bd]; try dsimp only))
        exact rF
  · obtain ⟨ats', fk', fp', k', s', e', v', sc', go', ba', op', ra', at', bg', tk', va', bd', rd', it', y1, y2, y3, y4, y5, y6, y7, y8⟩ := b_at (N := N) hN h hT f t t' q
    refine ⟨ats', le, mo, fk', fp', tl, k', s', e', v', sc', go', ba', op', co, ra', at', bg', tk', va', bd', rd', it', rr, ?_, ?_, y3, y4, y5, y6, y7, fun w => ⟨(y8 w).1, (y8 w).2, hR⟩⟩
    · rw [m_X7_readLine]
      repeat (first | (with_reducible refine gd_ok ?_ ?_; focus (first | omega | assumption | ((repeat' refine And.intro ?_ ?_) <;> first | omega | assumption) | fail)) | (with_reducible refine ip_ok ?_ ?_; focus (first | omega | assumption | ((repeat' refine And.intro ?_ ?_) <;> first | omega | assumption) | fail)) | (with_reducible refine in_ok ?_ ?_; focus (first | omega | assumption | ((repeat' refine And.intro ?_ ?_) <;> first | omega | assumption) | fail)) | (rw [i0, so_bd]; try dsimp only) | (rw [y1, so_bd]; try dsimp only) | (rw [so_bd]; try dsimp only))
      all_goals rfl
    · rw [m_X13_readsLine]
      repeat (first | (with_reducible refine gd_ok ?_ ?_; focus (first | omega | assumption | ((repeat' refine And.intro ?_ ?_) <;> first | omega | assumption) | fail)) | (with_reducible refine ip_ok ?_ ?_; focus (first | omega | assumption | ((repeat' refine And.intro ?_ ?_) <;> first | omega | assumption) | fail)) | (with_reducible refine in_ok ?_ ?_; focus (first | omega | assumption | ((repeat' refine And.intro ?_ ?_) <;> first | omega | assumption) | fail)) | (rw [j0, so_bd]; try dsimp only) | (rw [y2, so_bd]; try dsimp only) | (rw [so_bd]; try dsimp only))
      all_goals rfl
end
