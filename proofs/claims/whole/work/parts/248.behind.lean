/-! the reader: a number behind a word; the rest of a line of a score -/
section
variable {N : Nat} {z : Int} {c r : Int → Int}
theorem b_behind (hN : 40000 ≤ N) (h : TpR z c r) {fk fp k s e v at_ bg tk va bd lo hi : Int} {x : Nat} (hx : x < 7) (hl : 0 ≤ lo ∧ lo ≤ hi) (hh : hi ≤ 9999) (f : FR fk fp) (t : CT z k s e v) (t' : CT z tk bg at_ va) (q : Ra N z c fk fp k s e v at_ bg tk va bd) : ∃ fk0 fp0 k0 s0 e0 v0 n fk' fp' k' s' e' v' n' at' bg' tk' va' bd', m_X7_wantWord N z c 1600 fk fp k s e v x = some (fk0, fp0, k0, s0, e0, v0) ∧ m_X7_wantNumber N z c 1600 fk0 fp0 k0 s0 e0 v0 lo hi = some (n, fk', fp', k', s', e', v') ∧ m_X13_numberBehind N z r fk fp at_ bg tk va bd x lo hi = some (n', fk', fp', at', bg', tk', va', bd') ∧ FR fk' fp' ∧ CT z k' s' e' v' ∧ CT z tk' bg' at' va' ∧ Ra N z c fk' fp' k' s' e' v' at' bg' tk' va' bd' ∧ e ≤ e' ∧ (0 ≤ n ∧ n ≤ 1000000) ∧ (lo ≤ n' ∧ n' ≤ hi) ∧ (fk' = 0 → fk = 0 ∧ n' = n) ∧ (fk ≠ 0 → fk' = fk ∧ fp' = fp) := by
  obtain ⟨fk0, fp0, k0, s0, e0, v0, bd0, w1, w2, w3, w4, w5, w6, w7, w8⟩ := b_word (N := N) hN h hx f t t' q
  obtain ⟨at1, bg1, tk1, va1, o1, o2, o3⟩ := r_passes (N := N) hN h w3 w4 t' w5
  obtain ⟨n, fk', fp', k', s', e', v', n', at', bg', tk', va', bd', y1, y2, y3, y4, y5, y6, y7, y8, y9, y10, y11, y12⟩ := b_number (N := N) hN h (lo := lo) (hi := hi) hl hh w3 w4 o2 o3
  refine ⟨fk0, fp0, k0, s0, e0, v0, n, fk', fp', k', s', e', v', n', at', bg', tk', va', bd', w1, y1, ?_, y3, y4, y5, y6, by omega, y8, y9, fun w => ⟨w7 (y10 w).1, (y10 w).2.1⟩, fun w => by have a := w8 w; have b := y11 (by omega); omega⟩
  rw [w2, m_X13_numberBehind_b20]
  repeat (first | (with_reducible refine gd_ok ?_ ?_; focus (first | omega | assumption | ((repeat' refine And.intro ?_ ?_) <;> first | omega | assumption) | fail)) | (with_reducible refine ip_ok ?_ ?_; focus (first | omega | assumption | ((repeat' refine And.intro ?_ ?_) <;> first | omega | assumption) | fail)) | (with_reducible refine in_ok ?_ ?_; focus (first | omega | assumption | ((repeat' refine And.intro ?_ ?_) <;> first | omega | assumption) | fail)) | (rw [o1, so_bd]; try dsimp only) | (rw [y2, so_bd]; try dsimp only) | (rw [so_bd]; try dsimp only))
  all_goals rfl
theorem b_same (hN : 40000 ≤ N) (h : TpR z c r) {fk fp k s e v at_ bg tk va bd lo hi : Int} {x : Nat} (hx : x < 7) (hl : 0 ≤ lo ∧ lo ≤ hi) (hh : hi ≤ 9999) (f : FR fk fp) (t : CT z k s e v) (t' : CT z tk bg at_ va) (q : Rs fk fp k s e v at_ bg tk va bd) (hw : m_X7_isWord N k s e c 1600 x = some 1) : ∃ n fk' fp' k' s' e' v' n' at' bg' tk' va' bd', m_X7_wantNumber N z c 1600 fk fp k s e v lo hi = some (n, fk', fp', k', s', e', v') ∧ m_X13_numberBehind N z r fk fp at_ bg tk va bd x lo hi = some (n', fk', fp', at', bg', tk', va', bd') ∧ FR fk' fp' ∧ CT z k' s' e' v' ∧ CT z tk' bg' at' va' ∧ Ra N z c fk' fp' k' s' e' v' at' bg' tk' va' bd' ∧ e ≤ e' ∧ (0 ≤ n ∧ n ≤ 1000000) ∧ (lo ≤ n' ∧ n' ≤ hi) ∧ (fk' = 0 → fk = 0 ∧ n' = n) ∧ (fk ≠ 0 → fk' = fk ∧ fp' = fp) := by
  obtain ⟨at1, bg1, tk1, va1, o1, o2, o3⟩ := r_passes (N := N) hN h f t t' q
  obtain ⟨n, fk', fp', k', s', e', v', n', at', bg', tk', va', bd', y1, y2, y3, y4, y5, y6, y7, y8, y9, y10, y11, y12⟩ := b_number (N := N) hN h (lo := lo) (hi := hi) hl hh f t o2 o3
  refine ⟨n, fk', fp', k', s', e', v', n', at', bg', tk', va', bd', y1, ?_, y3, y4, y5, y6, y7, y8, y9, fun w => ⟨(y10 w).1, (y10 w).2.1⟩, y11⟩
  have b20 : m_X13_numberBehind_b20 N z r x lo hi fk fp at_ bg tk va bd = some (n', fk', fp', at', bg', tk', va', bd') := by
    rw [m_X13_numberBehind_b20]
    repeat (first | (with_reducible refine gd_ok ?_ ?_; focus (first | omega | assumption | ((repeat' refine And.intro ?_ ?_) <;> first | omega | assumption) | fail)) | (with_reducible refine ip_ok ?_ ?_; focus (first | omega | assumption | ((repeat' refine And.intro ?_ ?_) <;> first | omega | assumption) | fail)) | (with_reducible refine in_ok ?_ ?_; focus (first | omega | assumption | ((repeat' refine And.intro ?_ ?_) <;> first | omega | assumption) | fail)) | (rw [o1, so_bd]; try dsimp only) | (rw [y2, so_bd]; try dsimp only) | (rw [so_bd]; try dsimp only))
    all_goals rfl
  rw [m_X13_numberBehind]
  rcases id q with ⟨f0, b0, x1, x2, x3, x4⟩ | ⟨f0, b0⟩
  · obtain ⟨b, b1, b2, b3, b4⟩ := word (N := N) hN h hx t
    rw [hw] at b3
    have b5 : b = 1 := (Option.some.inj b3).symm
    subst x1 x2 x3 b5
    repeat (first | (with_reducible refine gd_ok ?_ ?_; focus (first | omega | assumption | ((repeat' refine And.intro ?_ ?_) <;> first | omega | assumption) | fail)) | (with_reducible refine ip_ok ?_ ?_; focus (first | omega | assumption | ((repeat' refine And.intro ?_ ?_) <;> first | omega | assumption) | fail)) | (with_reducible refine in_ok ?_ ?_; focus (first | omega | assumption | ((repeat' refine And.intro ?_ ?_) <;> first | omega | assumption) | fail)) | (rw [b4, so_bd]; try dsimp only) | (rw [so_bd]; try dsimp only))
    exact b20
  · repeat (first | (with_reducible refine gd_ok ?_ ?_; focus (first | omega | assumption | ((repeat' refine And.intro ?_ ?_) <;> first | omega | assumption) | fail)) | (with_reducible refine ip_ok ?_ ?_; focus (first | omega | assumption | ((repeat' refine And.intro ?_ ?_) <;> first | omega | assumption) | fail)) | (with_reducible refine in_ok ?_ ?_; focus (first | omega | assumption | ((repeat' refine And.intro ?_ ?_) <;> first | omega | assumption) | fail)) | (rw [so_bd]; try dsimp only))
    exact b20
set_option maxHeartbeats 2000000 in
theorem b_rest (hN : 40000 ≤ N) (h : TpR z c r) {ats ra F P A B T V D y1 fk fp k s e v at_ bg tk va bd : Int} {sc go ba op rd it : Int → Int} (ha : 0 ≤ ats ∧ ats < 60) (hy : 0 ≤ y1 ∧ y1 ≤ 999) (f : FR fk fp) (t : CT z k s e v) (t' : CT z tk bg at_ va) (q : Ra N z c fk fp k s e v at_ bg tk va bd) (hn : m_X13_number N z r F P A B T V D 0 999 = some (y1, fk, fp, at_, bg, tk, va, bd)) : ∃ gg bb op' fk' fp' k' s' e' v' ra' at' bg' tk' va' bd' rd' it', m_X7_readAt_b54 N z c 1600 ats fk fp k s e v sc go ba op = some (ats + 1, fk', fp', k', s', e', v', sc, uP go ats gg, uP ba ats bb, op') ∧ m_X13_readsAt_b65 N z r F P ra A B T V D rd it = some (fk', fp', ra', at', bg', tk', va', bd', rd', it') ∧ FR fk' fp' ∧ CT z k' s' e' v' ∧ CT z tk' bg' at' va' ∧ Rs fk' fp' k' s' e' v' at' bg' tk' va' bd' ∧ e ≤ e' ∧ (fk' = 0 → fk = 0 ∧ (0 ≤ gg ∧ gg ≤ 99) ∧ (0 ≤ bb ∧ bb ≤ 99) ∧ ra' = ra + 1 ∧ ∃ oo, (0 ≤ oo ∧ oo ≤ 99) ∧ op' ats = oo ∧ (∀ j, j ≠ ats → op' j = op j) ∧ rd' = uP (uP (uP rd (0 + y1) gg) (1000 + y1) bb) (2000 + y1) oo ∧ it' = uP it y1 1) ∧ (fk' ≠ 0 → ra' = ra ∧ rd' = rd ∧ it' = it) ∧ (fk ≠ 0 → fk' = fk ∧ fp' = fp) := by
  obtain ⟨fa, pa, ka, sa, ea, va_, n1, f1, p1, k1, s1, e1, v1, m1, at1, bg1, tk1, va1, bd1, w1, w2, w3, w4, w5, w6, w7, w8, w9, w10, w11, w12⟩ := b_behind (N := N) hN h (x := 4) (lo := 0) (hi := 99) (by omega) (by omega) (by omega) f t t' q
  obtain ⟨fb, pb, kb, sb, eb, vb_, n2, f2, p2, k2, s2, e2, v2, m2, at2, bg2, tk2, va2, bd2, x1, x2, x3, x4, x5, x6, x7, x8, x9, x10, x11, x12⟩ := b_behind (N := N) hN h (x := 5) (lo := 0) (hi := 99) (by omega) (by omega) (by omega) w4 w5 w6 w7
  obtain ⟨k3, s3, e3, v3, u1, u2, u3, u4, u5⟩ := c_step (N := N) h x4 x5 x6 x7
  obtain ⟨b, b1, b2, b3, b4⟩ := word (N := N) hN h (x := 6) (by omega) u2
  have hb : b = 0 ∨ b = 1 := b1
  have un : ∀ (F3 P3 a3 b3 t3 q3 y4 : Int), m_X13_readsAt_b124 N z r F3 P3 ra a3 b3 t3 q3 1 rd it y1 m1 m2 y4 = some (F3, P3, ra, a3, b3, t3, q3, 1, rd, it) := fun F3 P3 a3 b3 t3 q3 y4 => by
    rw [m_X13_readsAt_b124]
    repeat (first | (with_reducible refine gd_ok ?_ ?_; focus (first | omega | assumption | ((repeat' refine And.intro ?_ ?_) <;> first | omega | assumption) | fail)) | (with_reducible refine ip_ok ?_ ?_; focus (first | omega | assumption | ((repeat' refine And.intro ?_ ?_) <;> first | omega | assumption) | fail)) | (with_reducible refine in_ok ?_ ?_; focus (first | omega | assumption | ((repeat' refine And.intro ?_ ?_) <;> first | omega | assumption) | fail)) | (rw [so_bd]; try dsimp only))
    all_goals rfl
  have ok : ∀ (F3 P3 a3 b3 t3 q3 y4 : Int), m_X13_readsAt_b124 N z r F3 P3 ra a3 b3 t3 q3 0 rd it y1 m1 m2 y4 = some (F3, P3, ra + 1, a3, b3, t3, q3, 0, uP (uP (uP rd (0 + y1) m1) (1000 + y1) m2) (2000 + y1) y4, uP it y1 1) := fun F3 P3 a3 b3 t3 q3 y4 => by
    rw [m_X13_readsAt_b124]
    repeat (first | (with_reducible refine gd_ok ?_ ?_; focus (first | omega | assumption | ((repeat' refine And.intro ?_ ?_) <;> first | omega | assumption) | fail)) | (with_reducible refine ip_ok ?_ ?_; focus (first | omega | assumption | ((repeat' refine And.intro ?_ ?_) <;> first | omega | assumption) | fail)) | (with_reducible refine in_ok ?_ ?_; focus (first | omega | assumption | ((repeat' refine And.intro ?_ ?_) <;> first | omega | assumption) | fail)) | (rw [so_bd]; try dsimp only))
    all_goals rfl
  rcases hb with hb | hb
  · subst hb
    have cl : m_X7_readAt_b54 N z c 1600 ats fk fp k s e v sc go ba op = some (ats + 1, f2, p2, k3, s3, e3, v3, sc, uP go ats n1, uP ba ats n2, uP op ats 0) := by
      rw [m_X7_readAt_b54]
      repeat (first | (with_reducible refine gd_ok ?_ ?_; focus (first | omega | assumption | ((repeat' refine And.intro ?_ ?_) <;> first | omega | assumption) | fail)) | (with_reducible refine ip_ok ?_ ?_; focus (first | omega | assumption | ((repeat' refine And.intro ?_ ?_) <;> first | omega | assumption) | fail)) | (with_reducible refine in_ok ?_ ?_; focus (first | omega | assumption | ((repeat' refine And.intro ?_ ?_) <;> first | omega | assumption) | fail)) | (rw [w1, so_bd]; try dsimp only) | (rw [w2, so_bd]; try dsimp only) | (rw [x1, so_bd]; try dsimp only) | (rw [x2, so_bd]; try dsimp only) | (rw [u1, so_bd]; try dsimp only) | (rw [b3, so_bd]; try dsimp only) | (rw [so_bd]; try dsimp only))
      all_goals rfl
    rcases id u5 with ⟨z1, z2, z3, z4, z5, z6⟩ | ⟨z1, z2⟩
    · subst z2 z3 z4 z5
      obtain ⟨y3, y4⟩ := x11 z1
      obtain ⟨y5, y6⟩ := w11 y3
      refine ⟨n1, n2, uP op ats 0, f2, p2, tk2, bg2, at2, v3, ra + 1, at2, bg2, tk2, va2, 0, uP (uP (uP rd (0 + y1) n1) (1000 + y1) n2) (2000 + y1) 0, uP it y1 1, cl, ?_, x4, u2, x6, u5, by omega, fun _ => ⟨y5, by omega, by omega, rfl, 0, by omega, uP_s _ _ _, fun j hj => uP_o _ _ hj, rfl, rfl⟩, fun w => absurd z1 w, fun w => by have a := w12 w; have b := x12 (by omega); omega⟩
      rw [m_X13_readsAt_b65]
      repeat (first | (with_reducible refine gd_ok ?_ ?_; focus (first | omega | assumption | ((repeat' refine And.intro ?_ ?_) <;> first | omega | assumption) | fail)) | (with_reducible refine ip_ok ?_ ?_; focus (first | omega | assumption | ((repeat' refine And.intro ?_ ?_) <;> first | omega | assumption) | fail)) | (with_reducible refine in_ok ?_ ?_; focus (first | omega | assumption | ((repeat' refine And.intro ?_ ?_) <;> first | omega | assumption) | fail)) | (rw [hn, so_bd]; try dsimp only) | (rw [w3, so_bd]; try dsimp only) | (rw [x3, so_bd]; try dsimp only) | (rw [b4, so_bd]; try dsimp only) | (rw [so_bd]; try dsimp only))
      rw [ok, y4, y6]
    · subst z2
      refine ⟨n1, n2, uP op ats 0, f2, p2, k3, s3, e3, v3, ra, at2, bg2, tk2, va2, 1, rd, it, cl, ?_, x4, u2, x6, u5, by omega, fun w => absurd w z1, fun _ => ⟨rfl, rfl, rfl⟩, fun w => by have a := w12 w; have b := x12 (by omega); omega⟩
      rw [m_X13_readsAt_b65]
      repeat (first | (with_reducible refine gd_ok ?_ ?_; focus (first | omega | assumption | ((repeat' refine And.intro ?_ ?_) <;> first | omega | assumption) | fail)) | (with_reducible refine ip_ok ?_ ?_; focus (first | omega | assumption | ((repeat' refine And.intro ?_ ?_) <;> first | omega | assumption) | fail)) | (with_reducible refine in_ok ?_ ?_; focus (first | omega | assumption | ((repeat' refine And.intro ?_ ?_) <;> first | omega | assumption) | fail)) | (rw [hn, so_bd]; try dsimp only) | (rw [w3, so_bd]; try dsimp only) | (rw [x3, so_bd]; try dsimp only) | (rw [so_bd]; try dsimp only))
      exact un _ _ _ _ _ _ _
  · subst hb
    obtain ⟨n3, f4, p4, k4, s4, e4, v4, m4, at4, bg4, tk4, va4, bd4, o1, o2, o3, o4, o5, o6, o7, o8, o9, o10, o11⟩ := b_same (N := N) hN h (x := 6) (lo := 0) (hi := 99) (by omega) (by omega) (by omega) x4 u2 x6 u5 b3
    obtain ⟨k5, s5, e5, v5, l1, l2, l3, l4, l5⟩ := c_step (N := N) h o3 o4 o5 o6
    have cl : m_X7_readAt_b54 N z c 1600 ats fk fp k s e v sc go ba op = some (ats + 1, f4, p4, k5, s5, e5, v5, sc, uP go ats n1, uP ba ats n2, uP (uP op ats 0) ats n3) := by
      rw [m_X7_readAt_b54]
      repeat (first | (with_reducible refine gd_ok ?_ ?_; focus (first | omega | assumption | ((repeat' refine And.intro ?_ ?_) <;> first | omega | assumption) | fail)) | (with_reducible refine ip_ok ?_ ?_; focus (first | omega | assumption | ((repeat' refine And.intro ?_ ?_) <;> first | omega | assumption) | fail)) | (with_reducible refine in_ok ?_ ?_; focus (first | omega | assumption | ((repeat' refine And.intro ?_ ?_) <;> first | omega | assumption) | fail)) | (rw [w1, so_bd]; try dsimp only) | (rw [w2, so_bd]; try dsimp only) | (rw [x1, so_bd]; try dsimp only) | (rw [x2, so_bd]; try dsimp only) | (rw [u1, so_bd]; try dsimp only) | (rw [b3, so_bd]; try dsimp only) | (rw [o1, so_bd]; try dsimp only) | (rw [l1, so_bd]; try dsimp only) | (rw [so_bd]; try dsimp only))
      all_goals rfl
    rcases id u5 with ⟨z1, z2, z3, z4, z5, z6⟩ | ⟨z1, z2⟩
    · subst z2 z3 z4 z5
      have re : m_X13_readsAt_b65 N z r F P ra A B T V D rd it = m_X13_readsAt_b124 N z r f4 p4 ra at4 bg4 tk4 va4 bd4 rd it y1 m1 m2 m4 := by
        rw [m_X13_readsAt_b65]
        repeat (first | (with_reducible refine gd_ok ?_ ?_; focus (first | omega | assumption | ((repeat' refine And.intro ?_ ?_) <;> first | omega | assumption) | fail)) | (with_reducible refine ip_ok ?_ ?_; focus (first | omega | assumption | ((repeat' refine And.intro ?_ ?_) <;> first | omega | assumption) | fail)) | (with_reducible refine in_ok ?_ ?_; focus (first | omega | assumption | ((repeat' refine And.intro ?_ ?_) <;> first | omega | assumption) | fail)) | (rw [hn, so_bd]; try dsimp only) | (rw [w3, so_bd]; try dsimp only) | (rw [x3, so_bd]; try dsimp only) | (rw [b4, so_bd]; try dsimp only) | (rw [o2, so_bd]; try dsimp only) | (rw [so_bd]; try dsimp only))
        all_goals rfl
      obtain ⟨y3, y4⟩ := x11 z1
      obtain ⟨y5, y6⟩ := w11 y3
      rcases id l5 with ⟨j1, j2, j3, j4, j5, j6⟩ | ⟨j1, j2⟩
      · obtain ⟨i1, i2⟩ := o10 j1
        subst j2
        refine ⟨n1, n2, uP (uP op ats 0) ats n3, f4, p4, k5, s5, e5, v5, ra + 1, at4, bg4, tk4, va4, 0, uP (uP (uP rd (0 + y1) n1) (1000 + y1) n2) (2000 + y1) n3, uP it y1 1, cl, ?_, o3, l2, o5, l5, by omega, fun _ => ⟨y5, by omega, by omega, rfl, n3, by omega, uP_s _ _ _, fun j hj => by rw [uP_o _ _ hj, uP_o _ _ hj], rfl, rfl⟩, fun w => absurd j1 w, fun w => by have a := w12 w; have b := x12 (by omega); have d := o11 (by omega); omega⟩
        rw [re, ok, y4, y6, i2]
      · subst j2
        refine ⟨n1, n2, uP (uP op ats 0) ats n3, f4, p4, k5, s5, e5, v5, ra, at4, bg4, tk4, va4, 1, rd, it, cl, ?_, o3, l2, o5, l5, by omega, fun w => absurd w j1, fun _ => ⟨rfl, rfl, rfl⟩, fun w => by have a := w12 w; have b := x12 (by omega); have d := o11 (by omega); omega⟩
        rw [re, un]
    · subst z2
      obtain ⟨i1, i2⟩ := o11 z1
      subst i1 i2
      rcases id l5 with ⟨j1, j2, j3, j4, j5, j6⟩ | ⟨j1, j2⟩
      · exact absurd j1 z1
      · refine ⟨n1, n2, uP (uP op ats 0) ats n3, f4, p4, k5, s5, e5, v5, ra, at2, bg2, tk2, va2, 1, rd, it, cl, ?_, o3, l2, x6, Or.inr ⟨z1, rfl⟩, by omega, fun w => absurd w j1, fun _ => ⟨rfl, rfl, rfl⟩, fun w => by have a := w12 w; have b := x12 (by omega); omega⟩
        rw [m_X13_readsAt_b65]
        repeat (first | (with_reducible refine gd_ok ?_ ?_; focus (first | omega | assumption | ((repeat' refine And.intro ?_ ?_) <;> first | omega | assumption) | fail)) | (with_reducible refine ip_ok ?_ ?_; focus (first | omega | assumption | ((repeat' refine And.intro ?_ ?_) <;> first | omega | assumption) | fail)) | (with_reducible refine in_ok ?_ ?_; focus (first | omega | assumption | ((repeat' refine And.intro ?_ ?_) <;> first | omega | assumption) | fail)) | (rw [hn, so_bd]; try dsimp only) | (rw [w3, so_bd]; try dsimp only) | (rw [x3, so_bd]; try dsimp only) | (rw [so_bd]; try dsimp only))
        exact un _ _ _ _ _ _ _
end
