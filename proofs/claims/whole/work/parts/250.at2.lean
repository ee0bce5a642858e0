/-! the reader: a line of a score, both -/
section
variable {N : Nat} {z : Int} {c r : Int → Int}
def Bx (p : Prop) : Prop := p
theorem Bx.mk {p : Prop} (h : p) : Bx p := h
theorem Bx.v {p : Prop} (h : Bx p) : p := h
set_option maxHeartbeats 2000000 in
theorem b_at (hN : 40000 ≤ N) (h : TpR z c r) {ats fp k s e v at_ bg tk va : Int} {sc go ba op rd it : Int → Int} (hT : Td ats sc go ba op rd it) (f : FR 0 fp) (t : CT z k s e v) (t' : CT z tk bg at_ va) (q : Rs 0 fp k s e v at_ bg tk va 0) : ∃ ats' fk' fp' k' s' e' v' sc' go' ba' op' ra' at' bg' tk' va' bd' rd' it', m_X7_readAt N z c 1600 ats 0 fp k s e v sc go ba op = some (ats', fk', fp', k', s', e', v', sc', go', ba', op') ∧ m_X13_readsAt N z r 0 fp ats at_ bg tk va 0 rd it = some (fk', fp', ra', at', bg', tk', va', bd', rd', it') ∧ FR fk' fp' ∧ CT z k' s' e' v' ∧ CT z tk' bg' at' va' ∧ Rs fk' fp' k' s' e' v' at' bg' tk' va' bd' ∧ e ≤ e' ∧ (fk' = 0 → ra' = ats' ∧ Td ats' sc' go' ba' op' rd' it') := by
  obtain ⟨hz, hk⟩ := id h
  obtain ⟨a1, a2, a3, a4⟩ := id hT
  by_cases ca : ats = 60
  · obtain ⟨fk1, fp1, o1, o2, o3, o4⟩ := b_fail (N := N) (x := 4) hz.2 f t q (by omega)
    obtain ⟨u1, u2, u3, u4, u5, u6, u7⟩ := id t'
    obtain ⟨gg, bb, op', fk', fp', k', s', e', v', ra', at', bg', tk', va', bd', rd', it', w1, w2, w3, w4, w5, w6, w7, w8, w9, w10⟩ := b_rest (N := N) hN h (ats := 0) (ra := ats) (sc := sc) (go := go) (ba := ba) (op := op) (rd := rd) (it := it) (k := k) (s := s) (e := e) (v := v) (by omega) (by omega) o3 t t' (Or.inr ⟨o4, rfl⟩) (r_n1 (N := N) (z := z) (r := r) (by omega) (by omega) (by omega))
    replace w8 := Bx.mk w8
    obtain ⟨i1, i2⟩ := w10 o4
    subst i1 i2
    have bd1 : bd' = 1 := by
      rcases w6 with w | w
      · exact absurd w.1 o4
      · exact w.2
    subst bd1
    refine ⟨ats, fk', fp', k, s, e, v, sc, go, ba, op, ra', at', bg', tk', va', 1, rd', it', ?_, ?_, o3, t, w5, Or.inr ⟨o4, rfl⟩, Int.le_refl _, fun w => absurd w o4⟩
    · rw [m_X7_readAt]
      repeat (first | (with_reducible refine gd_ok ?_ ?_; focus (first | omega | assumption | ((repeat' refine And.intro ?_ ?_) <;> first | omega | assumption) | fail)) | (with_reducible refine ip_ok ?_ ?_; focus (first | omega | assumption | ((repeat' refine And.intro ?_ ?_) <;> first | omega | assumption) | fail)) | (with_reducible refine in_ok ?_ ?_; focus (first | omega | assumption | ((repeat' refine And.intro ?_ ?_) <;> first | omega | assumption) | fail)) | (rw [o1, so_bd]; try dsimp only) | (rw [so_bd]; try dsimp only))
      all_goals rfl
    · rw [m_X13_readsAt]
      repeat (first | (with_reducible refine gd_ok ?_ ?_; focus (first | omega | assumption | ((repeat' refine And.intro ?_ ?_) <;> first | omega | assumption) | fail)) | (with_reducible refine ip_ok ?_ ?_; focus (first | omega | assumption | ((repeat' refine And.intro ?_ ?_) <;> first | omega | assumption) | fail)) | (with_reducible refine in_ok ?_ ?_; focus (first | omega | assumption | ((repeat' refine And.intro ?_ ?_) <;> first | omega | assumption) | fail)) | (rw [o2, so_bd]; try dsimp only) | (rw [so_bd]; try dsimp only))
      rw [m_X13_readsAt_b14]
      have j := r_pa1 (N := N) (z := z) (r := r) (at_ := at_) (bg := bg) (tk := tk) (va := va)
      repeat (first | (with_reducible refine gd_ok ?_ ?_; focus (first | omega | assumption | ((repeat' refine And.intro ?_ ?_) <;> first | omega | assumption) | fail)) | (with_reducible refine ip_ok ?_ ?_; focus (first | omega | assumption | ((repeat' refine And.intro ?_ ?_) <;> first | omega | assumption) | fail)) | (with_reducible refine in_ok ?_ ?_; focus (first | omega | assumption | ((repeat' refine And.intro ?_ ?_) <;> first | omega | assumption) | fail)) | (rw [j, so_bd]; try dsimp only) | (rw [so_bd]; try dsimp only))
      exact w2
  · obtain ⟨at1, bg1, tk1, va1, o1, o2, o3⟩ := r_passes (N := N) hN h f t t' q
    obtain ⟨n, fk1, fp1, k1, s1, e1, v1, n', at2, bg2, tk2, va2, bd2, y1, y2, y3, y4, y5, y6, y7, y8, y9, y10, y11, y12⟩ := b_number (N := N) hN h (lo := 0) (hi := 999) (by omega) (by omega) f t o2 o3
    obtain ⟨u1, u2, u3, u4, u5, u6, u7⟩ := id o2
    have re0 : m_X13_readsAt N z r 0 fp ats at_ bg tk va 0 rd it = m_X13_readsAt_b14 N z r 0 fp ats at_ bg tk va 0 rd it := by
      rw [m_X13_readsAt]
      repeat (first | (with_reducible refine gd_ok ?_ ?_; focus (first | omega | assumption | ((repeat' refine And.intro ?_ ?_) <;> first | omega | assumption) | fail)) | (with_reducible refine ip_ok ?_ ?_; focus (first | omega | assumption | ((repeat' refine And.intro ?_ ?_) <;> first | omega | assumption) | fail)) | (with_reducible refine in_ok ?_ ?_; focus (first | omega | assumption | ((repeat' refine And.intro ?_ ?_) <;> first | omega | assumption) | fail)) | (rw [so_bd]; try dsimp only))
      all_goals rfl
    rw [m_X13_readsAt_b14] at re0
    obtain ⟨b, b1, b2⟩ := told (N := N) (ats := ats) (n := n) (sc := uP sc ats n) (by omega) y8 (fun j j0 j1 => by
      rw [uP_o sc _ (by omega)]
      have := (a2 j j0 j1).1
      omega) ats.toNat 0 N (by omega) (by omega) (by omega) (by omega)
    replace b2 := Bx.mk b2
    have b3 : m_X7_isTold N ats (uP sc ats n) ((uP sc ats n) ats) = some b := by
      rw [uP_s]
      exact b1
    by_cases f1 : fk1 = 0
    · obtain ⟨-, i2, i3, i4, i5⟩ := y10 f1
      have i := in1 (N := N) (v := va1) (lo := 0) (hi := 999) (by constructor <;> omega) (by constructor <;> omega) (by constructor <;> omega) (by omega)
      rcases b2.v with ⟨b0, j, j0, j1, j2⟩ | ⟨b0, bn⟩
      · rw [uP_o sc _ (by omega)] at j2
        have j3 := (a2 j j0 j1).2.1
        have it1 : it va1 = 1 := by
          rw [i4, ← j2]
          exact j3
        have fr : FR 3 bg1 := ⟨by omega, by omega, by omega, by omega⟩
        obtain ⟨gg, bb, op', fk', fp', k', s', e', v', ra', at', bg', tk', va', bd', rd', it', w1, w2, w3, w4, w5, w6, w7, w8, w9, w10⟩ := b_rest (N := N) hN h (ats := ats) (ra := ats) (sc := uP sc ats n) (go := go) (ba := ba) (op := op) (rd := rd) (it := it) (by omega) (by omega) fr y4 o2 (Or.inr ⟨by decide, rfl⟩) (r_n1 (N := N) (z := z) (r := r) (by omega) (by omega) (by omega))
        replace w8 := Bx.mk w8
        obtain ⟨z1, z2⟩ := w10 (by decide)
        refine ⟨ats + 1, fk', fp', k', s', e', v', uP sc ats n, uP go ats gg, uP ba ats bb, op', ra', at', bg', tk', va', bd', rd', it', ?_, ?_, w3, w4, w5, w6, by omega, fun w => by omega⟩
        · have fa : m_X7_fail N s1 fk1 fp1 3 = some (3, bg1) := by
            rw [m_X7_fail, i5]
            repeat (first | (with_reducible refine gd_ok ?_ ?_; focus (first | omega | assumption | ((repeat' refine And.intro ?_ ?_) <;> first | omega | assumption) | fail)) | (with_reducible refine ip_ok ?_ ?_; focus (first | omega | assumption | ((repeat' refine And.intro ?_ ?_) <;> first | omega | assumption) | fail)) | (with_reducible refine in_ok ?_ ?_; focus (first | omega | assumption | ((repeat' refine And.intro ?_ ?_) <;> first | omega | assumption) | fail)) | (rw [so_bd]; try dsimp only))
            all_goals rfl
          rw [m_X7_readAt]
          repeat (first | (with_reducible refine gd_ok ?_ ?_; focus (first | omega | assumption | ((repeat' refine And.intro ?_ ?_) <;> first | omega | assumption) | fail)) | (with_reducible refine ip_ok ?_ ?_; focus (first | omega | assumption | ((repeat' refine And.intro ?_ ?_) <;> first | omega | assumption) | fail)) | (with_reducible refine in_ok ?_ ?_; focus (first | omega | assumption | ((repeat' refine And.intro ?_ ?_) <;> first | omega | assumption) | fail)) | (rw [y1, so_bd]; try dsimp only) | (rw [b3, so_bd]; try dsimp only) | (rw [fa, so_bd]; try dsimp only) | (rw [so_bd]; try dsimp only))
          exact w1
        · have fa : m_X13_faults N bg1 0 fp 0 3 = some (3, bg1, 1) := by
            rw [m_X13_faults]
            repeat (first | (with_reducible refine gd_ok ?_ ?_; focus (first | omega | assumption | ((repeat' refine And.intro ?_ ?_) <;> first | omega | assumption) | fail)) | (with_reducible refine ip_ok ?_ ?_; focus (first | omega | assumption | ((repeat' refine And.intro ?_ ?_) <;> first | omega | assumption) | fail)) | (with_reducible refine in_ok ?_ ?_; focus (first | omega | assumption | ((repeat' refine And.intro ?_ ?_) <;> first | omega | assumption) | fail)) | (rw [so_bd]; try dsimp only))
            all_goals rfl
          rw [re0]
          repeat (first | (with_reducible refine gd_ok ?_ ?_; focus (first | omega | assumption | ((repeat' refine And.intro ?_ ?_) <;> first | omega | assumption) | fail)) | (with_reducible refine ip_ok ?_ ?_; focus (first | omega | assumption | ((repeat' refine And.intro ?_ ?_) <;> first | omega | assumption) | fail)) | (with_reducible refine in_ok ?_ ?_; focus (first | omega | assumption | ((repeat' refine And.intro ?_ ?_) <;> first | omega | assumption) | fail)) | (rw [o1, so_bd]; try dsimp only) | (rw [i, so_bd]; try dsimp only) | (rw [fa, so_bd]; try dsimp only) | (rw [so_bd]; try dsimp only))
          exact w2
      · have it0 : it va1 = 0 := by
          rcases a4 va1 (by omega) (by omega) with w | ⟨w, j, j0, j1, j2⟩
          · exact w.1
          · have := bn j j0 j1
            rw [uP_o sc _ (by omega)] at this
            omega
        obtain ⟨gg, bb, op', fk', fp', k', s', e', v', ra', at', bg', tk', va', bd', rd', it', w1, w2, w3, w4, w5, w6, w7, w8, w9, w10⟩ := b_rest (N := N) hN h (ats := ats) (ra := ats) (sc := uP sc ats n) (go := go) (ba := ba) (op := op) (rd := rd) (it := it) (by omega) y9 y3 y4 y5 y6 y2
        replace w8 := Bx.mk w8
        refine ⟨ats + 1, fk', fp', k', s', e', v', uP sc ats n, uP go ats gg, uP ba ats bb, op', ra', at', bg', tk', va', bd', rd', it', ?_, ?_, w3, w4, w5, w6, by omega, fun w => ?_⟩
        · rw [m_X7_readAt]
          repeat (first | (with_reducible refine gd_ok ?_ ?_; focus (first | omega | assumption | ((repeat' refine And.intro ?_ ?_) <;> first | omega | assumption) | fail)) | (with_reducible refine ip_ok ?_ ?_; focus (first | omega | assumption | ((repeat' refine And.intro ?_ ?_) <;> first | omega | assumption) | fail)) | (with_reducible refine in_ok ?_ ?_; focus (first | omega | assumption | ((repeat' refine And.intro ?_ ?_) <;> first | omega | assumption) | fail)) | (rw [y1, so_bd]; try dsimp only) | (rw [b3, so_bd]; try dsimp only) | (rw [so_bd]; try dsimp only))
          exact w1
        · rw [re0]
          repeat (first | (with_reducible refine gd_ok ?_ ?_; focus (first | omega | assumption | ((repeat' refine And.intro ?_ ?_) <;> first | omega | assumption) | fail)) | (with_reducible refine ip_ok ?_ ?_; focus (first | omega | assumption | ((repeat' refine And.intro ?_ ?_) <;> first | omega | assumption) | fail)) | (with_reducible refine in_ok ?_ ?_; focus (first | omega | assumption | ((repeat' refine And.intro ?_ ?_) <;> first | omega | assumption) | fail)) | (rw [o1, so_bd]; try dsimp only) | (rw [i, so_bd]; try dsimp only) | (rw [so_bd]; try dsimp only))
          exact w2
        · obtain ⟨-, g1, g2, g3, oo, g4, g5, g6, g7, g8⟩ := w8.v w
          refine ⟨g3, ?_⟩
          rw [g7, g8, i2]
          exact hT.more (by omega) (by omega) g1 g2 g4 (fun j j0 j1 => by
            have := bn j j0 j1
            rw [uP_o sc _ (by omega)] at this
            exact this) g5 g6
    · obtain ⟨gg, bb, op', fk', fp', k', s', e', v', ra', at', bg', tk', va', bd', rd', it', w1, w2, w3, w4, w5, w6, w7, w8, w9, w10⟩ := b_rest (N := N) hN h (ats := ats) (ra := ats) (sc := uP sc ats n) (go := go) (ba := ba) (op := op) (rd := rd) (it := it) (by omega) y9 y3 y4 y5 y6 y2
      replace w8 := Bx.mk w8
      obtain ⟨z1, z2⟩ := w10 f1
      refine ⟨ats + 1, fk', fp', k', s', e', v', uP sc ats n, uP go ats gg, uP ba ats bb, op', ra', at', bg', tk', va', bd', rd', it', ?_, ?_, w3, w4, w5, w6, by omega, fun w => by omega⟩
      · have fa := c_fa1 (N := N) (s := s1) (x := 3) y3 f1
        rw [m_X7_readAt]
        rcases b2.v with ⟨b0, -⟩ | ⟨b0, -⟩
        · repeat (first | (with_reducible refine gd_ok ?_ ?_; focus (first | omega | assumption | ((repeat' refine And.intro ?_ ?_) <;> first | omega | assumption) | fail)) | (with_reducible refine ip_ok ?_ ?_; focus (first | omega | assumption | ((repeat' refine And.intro ?_ ?_) <;> first | omega | assumption) | fail)) | (with_reducible refine in_ok ?_ ?_; focus (first | omega | assumption | ((repeat' refine And.intro ?_ ?_) <;> first | omega | assumption) | fail)) | (rw [y1, so_bd]; try dsimp only) | (rw [b3, so_bd]; try dsimp only) | (rw [fa, so_bd]; try dsimp only) | (rw [so_bd]; try dsimp only))
          exact w1
        · repeat (first | (with_reducible refine gd_ok ?_ ?_; focus (first | omega | assumption | ((repeat' refine And.intro ?_ ?_) <;> first | omega | assumption) | fail)) | (with_reducible refine ip_ok ?_ ?_; focus (first | omega | assumption | ((repeat' refine And.intro ?_ ?_) <;> first | omega | assumption) | fail)) | (with_reducible refine in_ok ?_ ?_; focus (first | omega | assumption | ((repeat' refine And.intro ?_ ?_) <;> first | omega | assumption) | fail)) | (rw [y1, so_bd]; try dsimp only) | (rw [b3, so_bd]; try dsimp only) | (rw [so_bd]; try dsimp only))
          exact w1
      · rw [re0]
        by_cases k2 : tk1 = 2
        · have ir : ¬ (0 ≤ va1 ∧ va1 ≤ 999) := fun w => f1 (y12 rfl k2 w.1 w.2)
          have i := in0 (N := N) (v := va1) (lo := 0) (hi := 999) (by constructor <;> omega) (by constructor <;> omega) (by constructor <;> omega) ir
          repeat (first | (with_reducible refine gd_ok ?_ ?_; focus (first | omega | assumption | ((repeat' refine And.intro ?_ ?_) <;> first | omega | assumption) | fail)) | (with_reducible refine ip_ok ?_ ?_; focus (first | omega | assumption | ((repeat' refine And.intro ?_ ?_) <;> first | omega | assumption) | fail)) | (with_reducible refine in_ok ?_ ?_; focus (first | omega | assumption | ((repeat' refine And.intro ?_ ?_) <;> first | omega | assumption) | fail)) | (rw [o1, so_bd]; try dsimp only) | (rw [i, so_bd]; try dsimp only) | (rw [so_bd]; try dsimp only))
          exact w2
        · repeat (first | (with_reducible refine gd_ok ?_ ?_; focus (first | omega | assumption | ((repeat' refine And.intro ?_ ?_) <;> first | omega | assumption) | fail)) | (with_reducible refine ip_ok ?_ ?_; focus (first | omega | assumption | ((repeat' refine And.intro ?_ ?_) <;> first | omega | assumption) | fail)) | (with_reducible refine in_ok ?_ ?_; focus (first | omega | assumption | ((repeat' refine And.intro ?_ ?_) <;> first | omega | assumption) | fail)) | (rw [o1, so_bd]; try dsimp only) | (rw [so_bd]; try dsimp only))
          exact w2
end
