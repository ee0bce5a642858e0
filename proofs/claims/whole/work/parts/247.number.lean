/-! the reader: a number wanted -/
section
variable {N : Nat} {z : Int} {c r : Int → Int}
theorem r_fa1 {bg fk fp x : Int} : m_X13_faults N bg fk fp 1 x = some (fk, fp, 1) := by
  rw [m_X13_faults]
  repeat (first | (with_reducible refine gd_ok ?_ ?_; focus (first | omega | assumption | ((repeat' refine And.intro ?_ ?_) <;> first | omega | assumption) | fail)) | (with_reducible refine ip_ok ?_ ?_; focus (first | omega | assumption | ((repeat' refine And.intro ?_ ?_) <;> first | omega | assumption) | fail)) | (with_reducible refine in_ok ?_ ?_; focus (first | omega | assumption | ((repeat' refine And.intro ?_ ?_) <;> first | omega | assumption) | fail)) | (rw [so_bd]; try dsimp only))
  all_goals rfl
theorem r_pa1 {at_ bg tk va : Int} : m_X13_passes N z 1 r at_ bg tk va = some (at_, bg, tk, va) := by
  rw [m_X13_passes]
  repeat (first | (with_reducible refine gd_ok ?_ ?_; focus (first | omega | assumption | ((repeat' refine And.intro ?_ ?_) <;> first | omega | assumption) | fail)) | (with_reducible refine ip_ok ?_ ?_; focus (first | omega | assumption | ((repeat' refine And.intro ?_ ?_) <;> first | omega | assumption) | fail)) | (with_reducible refine in_ok ?_ ?_; focus (first | omega | assumption | ((repeat' refine And.intro ?_ ?_) <;> first | omega | assumption) | fail)) | (rw [so_bd]; try dsimp only))
  all_goals rfl
theorem c_fa1 {s fk fp x : Int} (f : FR fk fp) (f0 : fk ≠ 0) : m_X7_fail N s fk fp x = some (fk, fp) := by
  obtain ⟨g1, g2, g3, g4⟩ := f
  rw [m_X7_fail]
  repeat (first | (with_reducible refine gd_ok ?_ ?_; focus (first | omega | assumption | ((repeat' refine And.intro ?_ ?_) <;> first | omega | assumption) | fail)) | (with_reducible refine ip_ok ?_ ?_; focus (first | omega | assumption | ((repeat' refine And.intro ?_ ?_) <;> first | omega | assumption) | fail)) | (with_reducible refine in_ok ?_ ?_; focus (first | omega | assumption | ((repeat' refine And.intro ?_ ?_) <;> first | omega | assumption) | fail)) | (rw [so_bd]; try dsimp only))
  all_goals rfl
theorem r_nb {fk fp at_ bg tk va y lo hi : Int} (hl : 0 ≤ lo ∧ lo ≤ 9999) (hh : 0 ≤ hi ∧ hi ≤ 9999) (y0 : 0 ≤ y ∧ y ≤ 1000000) : m_X13_number_b25 N z r lo hi fk fp at_ bg tk va 1 y = some (lo, fk, fp, at_, bg, tk, va, 1) := by
  have b42 : m_X13_number_b42 N z r lo hi fk fp at_ bg tk va 1 y = some (lo, fk, fp, at_, bg, tk, va, 1) := by
    rw [m_X13_number_b42]
    have q := r_pa1 (N := N) (z := z) (r := r) (at_ := at_) (bg := bg) (tk := tk) (va := va)
    repeat (first | (with_reducible refine gd_ok ?_ ?_; focus (first | omega | assumption | ((repeat' refine And.intro ?_ ?_) <;> first | omega | assumption) | fail)) | (with_reducible refine ip_ok ?_ ?_; focus (first | omega | assumption | ((repeat' refine And.intro ?_ ?_) <;> first | omega | assumption) | fail)) | (with_reducible refine in_ok ?_ ?_; focus (first | omega | assumption | ((repeat' refine And.intro ?_ ?_) <;> first | omega | assumption) | fail)) | (rw [q, so_bd]; try dsimp only) | (rw [so_bd]; try dsimp only))
    all_goals rfl
  rw [m_X13_number_b25]
  by_cases w : lo ≤ y ∧ y ≤ hi
  · have i := in1 (N := N) (v := y) (lo := lo) (hi := hi) (by constructor <;> omega) (by constructor <;> omega) (by constructor <;> omega) w
    repeat (first | (with_reducible refine gd_ok ?_ ?_; focus (first | omega | assumption | ((repeat' refine And.intro ?_ ?_) <;> first | omega | assumption) | fail)) | (with_reducible refine ip_ok ?_ ?_; focus (first | omega | assumption | ((repeat' refine And.intro ?_ ?_) <;> first | omega | assumption) | fail)) | (with_reducible refine in_ok ?_ ?_; focus (first | omega | assumption | ((repeat' refine And.intro ?_ ?_) <;> first | omega | assumption) | fail)) | (rw [i, so_bd]; try dsimp only) | (rw [so_bd]; try dsimp only))
    exact b42
  · have i := in0 (N := N) (v := y) (lo := lo) (hi := hi) (by constructor <;> omega) (by constructor <;> omega) (by constructor <;> omega) w
    have j := r_fa1 (N := N) (bg := bg) (fk := fk) (fp := fp) (x := 2)
    repeat (first | (with_reducible refine gd_ok ?_ ?_; focus (first | omega | assumption | ((repeat' refine And.intro ?_ ?_) <;> first | omega | assumption) | fail)) | (with_reducible refine ip_ok ?_ ?_; focus (first | omega | assumption | ((repeat' refine And.intro ?_ ?_) <;> first | omega | assumption) | fail)) | (with_reducible refine in_ok ?_ ?_; focus (first | omega | assumption | ((repeat' refine And.intro ?_ ?_) <;> first | omega | assumption) | fail)) | (rw [i, so_bd]; try dsimp only) | (rw [j, so_bd]; try dsimp only) | (rw [so_bd]; try dsimp only))
    exact b42
theorem b_number (hN : 40000 ≤ N) (h : TpR z c r) {fk fp k s e v at_ bg tk va bd lo hi : Int} (hl : 0 ≤ lo ∧ lo ≤ hi) (hh : hi ≤ 9999) (f : FR fk fp) (t : CT z k s e v) (t' : CT z tk bg at_ va) (q : Ra N z c fk fp k s e v at_ bg tk va bd) : ∃ n fk' fp' k' s' e' v' n' at' bg' tk' va' bd', m_X7_wantNumber N z c 1600 fk fp k s e v lo hi = some (n, fk', fp', k', s', e', v') ∧ m_X13_number N z r fk fp at_ bg tk va bd lo hi = some (n', fk', fp', at', bg', tk', va', bd') ∧ FR fk' fp' ∧ CT z k' s' e' v' ∧ CT z tk' bg' at' va' ∧ Ra N z c fk' fp' k' s' e' v' at' bg' tk' va' bd' ∧ e ≤ e' ∧ (0 ≤ n ∧ n ≤ 1000000) ∧ (lo ≤ n' ∧ n' ≤ hi) ∧ (fk' = 0 → fk = 0 ∧ n' = n ∧ tk = 2 ∧ va = n ∧ s' = bg) ∧ (fk ≠ 0 → fk' = fk ∧ fp' = fp) ∧ (fk = 0 → tk = 2 → lo ≤ va → va ≤ hi → fk' = 0) := by
  obtain ⟨hz, hk⟩ := id h
  obtain ⟨k1, s1, e1, v1, p1, t1, le, lt, q1⟩ := c_step (N := N) h f t t' q
  obtain ⟨c1, c2, c3, c4, c5, c6, c7⟩ := id t1
  obtain ⟨u1, u2, u3, u4, u5, u6, u7⟩ := id t'
  obtain ⟨g1, g2, g3, g4⟩ := id f
  rcases id q1 with ⟨f0, b0, x1, x2, x3, x4⟩ | ⟨f0, b0⟩
  · by_cases w : k1 = 2
    · by_cases w1 : lo ≤ v1 ∧ v1 ≤ hi
      · obtain ⟨at', bg', tk', va', o1, o2, o3⟩ := r_passes hN h f t1 t' q1
        refine ⟨v1, fk, fp, k1, s1, e1, v1, va, at', bg', tk', va', bd, ?_, ?_, f, t1, o2, o3, le, by omega, by omega, fun _ => ⟨f0, by omega, by omega, by omega, by omega⟩, fun _ => ⟨rfl, rfl⟩, fun w _ _ _ => w⟩
        · rw [m_X7_wantNumber]
          repeat (first | (with_reducible refine gd_ok ?_ ?_; focus (first | omega | assumption | ((repeat' refine And.intro ?_ ?_) <;> first | omega | assumption) | fail)) | (with_reducible refine ip_ok ?_ ?_; focus (first | omega | assumption | ((repeat' refine And.intro ?_ ?_) <;> first | omega | assumption) | fail)) | (with_reducible refine in_ok ?_ ?_; focus (first | omega | assumption | ((repeat' refine And.intro ?_ ?_) <;> first | omega | assumption) | fail)) | (rw [p1, so_bd]; try dsimp only) | (rw [so_bd]; try dsimp only))
          all_goals rfl
        · have i := in1 (N := N) (v := va) (lo := lo) (hi := hi) (by constructor <;> omega) (by constructor <;> omega) (by constructor <;> omega) (by omega)
          rw [m_X13_number]
          repeat (first | (with_reducible refine gd_ok ?_ ?_; focus (first | omega | assumption | ((repeat' refine And.intro ?_ ?_) <;> first | omega | assumption) | fail)) | (with_reducible refine ip_ok ?_ ?_; focus (first | omega | assumption | ((repeat' refine And.intro ?_ ?_) <;> first | omega | assumption) | fail)) | (with_reducible refine in_ok ?_ ?_; focus (first | omega | assumption | ((repeat' refine And.intro ?_ ?_) <;> first | omega | assumption) | fail)) | (rw [so_bd]; try dsimp only))
          rw [m_X13_number_b25]
          repeat (first | (with_reducible refine gd_ok ?_ ?_; focus (first | omega | assumption | ((repeat' refine And.intro ?_ ?_) <;> first | omega | assumption) | fail)) | (with_reducible refine ip_ok ?_ ?_; focus (first | omega | assumption | ((repeat' refine And.intro ?_ ?_) <;> first | omega | assumption) | fail)) | (with_reducible refine in_ok ?_ ?_; focus (first | omega | assumption | ((repeat' refine And.intro ?_ ?_) <;> first | omega | assumption) | fail)) | (rw [i, so_bd]; try dsimp only) | (rw [so_bd]; try dsimp only))
          rw [m_X13_number_b42]
          repeat (first | (with_reducible refine gd_ok ?_ ?_; focus (first | omega | assumption | ((repeat' refine And.intro ?_ ?_) <;> first | omega | assumption) | fail)) | (with_reducible refine ip_ok ?_ ?_; focus (first | omega | assumption | ((repeat' refine And.intro ?_ ?_) <;> first | omega | assumption) | fail)) | (with_reducible refine in_ok ?_ ?_; focus (first | omega | assumption | ((repeat' refine And.intro ?_ ?_) <;> first | omega | assumption) | fail)) | (rw [o1, so_bd]; try dsimp only) | (rw [so_bd]; try dsimp only))
          all_goals rfl
      · obtain ⟨fk', fp', o1, o2, o3, o4⟩ := b_fail (N := N) (x := 2) hz.2 f t1 q1 (by omega)
        refine ⟨v1, fk', fp', k1, s1, e1, v1, lo, at_, bg, tk, va, 1, ?_, ?_, o3, t1, t', Or.inr ⟨o4, rfl⟩, le, by omega, by omega, fun w => absurd w o4, fun w => absurd f0 w, fun _ _ _ _ => by omega⟩
        · have b37 : m_X7_wantNumber_b37 N z c 1600 lo hi fk fp k1 s1 e1 v1 = some (v1, fk', fp', k1, s1, e1, v1) := by
            rw [m_X7_wantNumber_b37]
            repeat (first | (with_reducible refine gd_ok ?_ ?_; focus (first | omega | assumption | ((repeat' refine And.intro ?_ ?_) <;> first | omega | assumption) | fail)) | (with_reducible refine ip_ok ?_ ?_; focus (first | omega | assumption | ((repeat' refine And.intro ?_ ?_) <;> first | omega | assumption) | fail)) | (with_reducible refine in_ok ?_ ?_; focus (first | omega | assumption | ((repeat' refine And.intro ?_ ?_) <;> first | omega | assumption) | fail)) | (rw [o1, so_bd]; try dsimp only) | (rw [so_bd]; try dsimp only))
            all_goals rfl
          rw [m_X7_wantNumber]
          by_cases w2 : v1 < lo
          · repeat (first | (with_reducible refine gd_ok ?_ ?_; focus (first | omega | assumption | ((repeat' refine And.intro ?_ ?_) <;> first | omega | assumption) | fail)) | (with_reducible refine ip_ok ?_ ?_; focus (first | omega | assumption | ((repeat' refine And.intro ?_ ?_) <;> first | omega | assumption) | fail)) | (with_reducible refine in_ok ?_ ?_; focus (first | omega | assumption | ((repeat' refine And.intro ?_ ?_) <;> first | omega | assumption) | fail)) | (rw [p1, so_bd]; try dsimp only) | (rw [so_bd]; try dsimp only))
            exact b37
          · repeat (first | (with_reducible refine gd_ok ?_ ?_; focus (first | omega | assumption | ((repeat' refine And.intro ?_ ?_) <;> first | omega | assumption) | fail)) | (with_reducible refine ip_ok ?_ ?_; focus (first | omega | assumption | ((repeat' refine And.intro ?_ ?_) <;> first | omega | assumption) | fail)) | (with_reducible refine in_ok ?_ ?_; focus (first | omega | assumption | ((repeat' refine And.intro ?_ ?_) <;> first | omega | assumption) | fail)) | (rw [p1, so_bd]; try dsimp only) | (rw [so_bd]; try dsimp only))
            exact b37
        · have i := in0 (N := N) (v := va) (lo := lo) (hi := hi) (by constructor <;> omega) (by constructor <;> omega) (by constructor <;> omega) (by omega)
          rw [m_X13_number]
          repeat (first | (with_reducible refine gd_ok ?_ ?_; focus (first | omega | assumption | ((repeat' refine And.intro ?_ ?_) <;> first | omega | assumption) | fail)) | (with_reducible refine ip_ok ?_ ?_; focus (first | omega | assumption | ((repeat' refine And.intro ?_ ?_) <;> first | omega | assumption) | fail)) | (with_reducible refine in_ok ?_ ?_; focus (first | omega | assumption | ((repeat' refine And.intro ?_ ?_) <;> first | omega | assumption) | fail)) | (rw [so_bd]; try dsimp only))
          rw [m_X13_number_b25]
          repeat (first | (with_reducible refine gd_ok ?_ ?_; focus (first | omega | assumption | ((repeat' refine And.intro ?_ ?_) <;> first | omega | assumption) | fail)) | (with_reducible refine ip_ok ?_ ?_; focus (first | omega | assumption | ((repeat' refine And.intro ?_ ?_) <;> first | omega | assumption) | fail)) | (with_reducible refine in_ok ?_ ?_; focus (first | omega | assumption | ((repeat' refine And.intro ?_ ?_) <;> first | omega | assumption) | fail)) | (rw [i, so_bd]; try dsimp only) | (rw [o2, so_bd]; try dsimp only) | (rw [so_bd]; try dsimp only))
          rw [m_X13_number_b42]
          have j := r_pa1 (N := N) (z := z) (r := r) (at_ := at_) (bg := bg) (tk := tk) (va := va)
          repeat (first | (with_reducible refine gd_ok ?_ ?_; focus (first | omega | assumption | ((repeat' refine And.intro ?_ ?_) <;> first | omega | assumption) | fail)) | (with_reducible refine ip_ok ?_ ?_; focus (first | omega | assumption | ((repeat' refine And.intro ?_ ?_) <;> first | omega | assumption) | fail)) | (with_reducible refine in_ok ?_ ?_; focus (first | omega | assumption | ((repeat' refine And.intro ?_ ?_) <;> first | omega | assumption) | fail)) | (rw [j, so_bd]; try dsimp only) | (rw [so_bd]; try dsimp only))
          all_goals rfl
    · obtain ⟨fk', fp', o1, o2, o3, o4⟩ := b_fail (N := N) (x := 1) hz.2 f t1 q1 (by omega)
      refine ⟨v1, fk', fp', k1, s1, e1, v1, lo, at_, bg, tk, va, 1, ?_, ?_, o3, t1, t', Or.inr ⟨o4, rfl⟩, le, by omega, by omega, fun w => absurd w o4, fun w => absurd f0 w, fun _ _ _ _ => by omega⟩
      · rw [m_X7_wantNumber]
        repeat (first | (with_reducible refine gd_ok ?_ ?_; focus (first | omega | assumption | ((repeat' refine And.intro ?_ ?_) <;> first | omega | assumption) | fail)) | (with_reducible refine ip_ok ?_ ?_; focus (first | omega | assumption | ((repeat' refine And.intro ?_ ?_) <;> first | omega | assumption) | fail)) | (with_reducible refine in_ok ?_ ?_; focus (first | omega | assumption | ((repeat' refine And.intro ?_ ?_) <;> first | omega | assumption) | fail)) | (rw [p1, so_bd]; try dsimp only) | (rw [o1, so_bd]; try dsimp only) | (rw [so_bd]; try dsimp only))
        all_goals rfl
      · rw [m_X13_number]
        repeat (first | (with_reducible refine gd_ok ?_ ?_; focus (first | omega | assumption | ((repeat' refine And.intro ?_ ?_) <;> first | omega | assumption) | fail)) | (with_reducible refine ip_ok ?_ ?_; focus (first | omega | assumption | ((repeat' refine And.intro ?_ ?_) <;> first | omega | assumption) | fail)) | (with_reducible refine in_ok ?_ ?_; focus (first | omega | assumption | ((repeat' refine And.intro ?_ ?_) <;> first | omega | assumption) | fail)) | (rw [o2, so_bd]; try dsimp only) | (rw [so_bd]; try dsimp only))
        exact r_nb (by omega) (by omega) (by omega)
  · subst b0
    refine ⟨v1, fk, fp, k1, s1, e1, v1, lo, at_, bg, tk, va, 1, ?_, ?_, f, t1, t', Or.inr ⟨f0, rfl⟩, le, by omega, by omega, fun w => absurd w f0, fun _ => ⟨rfl, rfl⟩, fun w => absurd w f0⟩
    · have o1 : ∀ x, m_X7_fail N s1 fk fp x = some (fk, fp) := fun x => c_fa1 f f0
      have b37 : m_X7_wantNumber_b37 N z c 1600 lo hi fk fp k1 s1 e1 v1 = some (v1, fk, fp, k1, s1, e1, v1) := by
        rw [m_X7_wantNumber_b37]
        repeat (first | (with_reducible refine gd_ok ?_ ?_; focus (first | omega | assumption | ((repeat' refine And.intro ?_ ?_) <;> first | omega | assumption) | fail)) | (with_reducible refine ip_ok ?_ ?_; focus (first | omega | assumption | ((repeat' refine And.intro ?_ ?_) <;> first | omega | assumption) | fail)) | (with_reducible refine in_ok ?_ ?_; focus (first | omega | assumption | ((repeat' refine And.intro ?_ ?_) <;> first | omega | assumption) | fail)) | (rw [o1, so_bd]; try dsimp only) | (rw [so_bd]; try dsimp only))
        all_goals rfl
      rw [m_X7_wantNumber]
      by_cases w : k1 = 2
      · by_cases w2 : v1 < lo
        · repeat (first | (with_reducible refine gd_ok ?_ ?_; focus (first | omega | assumption | ((repeat' refine And.intro ?_ ?_) <;> first | omega | assumption) | fail)) | (with_reducible refine ip_ok ?_ ?_; focus (first | omega | assumption | ((repeat' refine And.intro ?_ ?_) <;> first | omega | assumption) | fail)) | (with_reducible refine in_ok ?_ ?_; focus (first | omega | assumption | ((repeat' refine And.intro ?_ ?_) <;> first | omega | assumption) | fail)) | (rw [p1, so_bd]; try dsimp only) | (rw [so_bd]; try dsimp only))
          exact b37
        · by_cases w3 : v1 ≤ hi
          · repeat (first | (with_reducible refine gd_ok ?_ ?_; focus (first | omega | assumption | ((repeat' refine And.intro ?_ ?_) <;> first | omega | assumption) | fail)) | (with_reducible refine ip_ok ?_ ?_; focus (first | omega | assumption | ((repeat' refine And.intro ?_ ?_) <;> first | omega | assumption) | fail)) | (with_reducible refine in_ok ?_ ?_; focus (first | omega | assumption | ((repeat' refine And.intro ?_ ?_) <;> first | omega | assumption) | fail)) | (rw [p1, so_bd]; try dsimp only) | (rw [so_bd]; try dsimp only))
            all_goals rfl
          · repeat (first | (with_reducible refine gd_ok ?_ ?_; focus (first | omega | assumption | ((repeat' refine And.intro ?_ ?_) <;> first | omega | assumption) | fail)) | (with_reducible refine ip_ok ?_ ?_; focus (first | omega | assumption | ((repeat' refine And.intro ?_ ?_) <;> first | omega | assumption) | fail)) | (with_reducible refine in_ok ?_ ?_; focus (first | omega | assumption | ((repeat' refine And.intro ?_ ?_) <;> first | omega | assumption) | fail)) | (rw [p1, so_bd]; try dsimp only) | (rw [so_bd]; try dsimp only))
            exact b37
      · repeat (first | (with_reducible refine gd_ok ?_ ?_; focus (first | omega | assumption | ((repeat' refine And.intro ?_ ?_) <;> first | omega | assumption) | fail)) | (with_reducible refine ip_ok ?_ ?_; focus (first | omega | assumption | ((repeat' refine And.intro ?_ ?_) <;> first | omega | assumption) | fail)) | (with_reducible refine in_ok ?_ ?_; focus (first | omega | assumption | ((repeat' refine And.intro ?_ ?_) <;> first | omega | assumption) | fail)) | (rw [p1, so_bd]; try dsimp only) | (rw [o1, so_bd]; try dsimp only) | (rw [so_bd]; try dsimp only))
        all_goals rfl
    · rw [m_X13_number]
      repeat (first | (with_reducible refine gd_ok ?_ ?_; focus (first | omega | assumption | ((repeat' refine And.intro ?_ ?_) <;> first | omega | assumption) | fail)) | (with_reducible refine ip_ok ?_ ?_; focus (first | omega | assumption | ((repeat' refine And.intro ?_ ?_) <;> first | omega | assumption) | fail)) | (with_reducible refine in_ok ?_ ?_; focus (first | omega | assumption | ((repeat' refine And.intro ?_ ?_) <;> first | omega | assumption) | fail)) | (rw [so_bd]; try dsimp only))
      exact r_nb (by omega) (by omega) (by omega)
theorem b_word (hN : 40000 ≤ N) (h : TpR z c r) {fk fp k s e v at_ bg tk va bd : Int} {x : Nat} (hx : x < 7) (f : FR fk fp) (t : CT z k s e v) (t' : CT z tk bg at_ va) (q : Ra N z c fk fp k s e v at_ bg tk va bd) : ∃ fk' fp' k' s' e' v' bd', m_X7_wantWord N z c 1600 fk fp k s e v x = some (fk', fp', k', s', e', v') ∧ (∀ lo hi, m_X13_numberBehind N z r fk fp at_ bg tk va bd x lo hi = m_X13_numberBehind_b20 N z r x lo hi fk' fp' at_ bg tk va bd') ∧ FR fk' fp' ∧ CT z k' s' e' v' ∧ Rs fk' fp' k' s' e' v' at_ bg tk va bd' ∧ e ≤ e' ∧ (fk' = 0 → fk = 0) ∧ (fk ≠ 0 → fk' = fk ∧ fp' = fp) := by
  obtain ⟨hz, hk⟩ := id h
  obtain ⟨k1, s1, e1, v1, p1, t1, le, lt, q1⟩ := c_step (N := N) h f t t' q
  obtain ⟨g1, g2, g3, g4⟩ := id f
  obtain ⟨b, b1, b2, b3, b4⟩ := word (N := N) hN h hx t1
  rcases id q1 with ⟨f0, b0, x1, x2, x3, x4⟩ | ⟨f0, b0⟩
  · subst x1 x2 x3
    by_cases w : b = 0
    · obtain ⟨fk', fp', o1, o2, o3, o4⟩ := b_fail (N := N) (x := 1) hz.2 f t1 q1 (by omega)
      refine ⟨fk', fp', tk, bg, at_, v1, 1, ?_, fun lo hi => ?_, o3, t1, Or.inr ⟨o4, rfl⟩, le, fun w => absurd w o4, fun w => absurd f0 w⟩
      · rw [m_X7_wantWord]
        repeat (first | (with_reducible refine gd_ok ?_ ?_; focus (first | omega | assumption | ((repeat' refine And.intro ?_ ?_) <;> first | omega | assumption) | fail)) | (with_reducible refine ip_ok ?_ ?_; focus (first | omega | assumption | ((repeat' refine And.intro ?_ ?_) <;> first | omega | assumption) | fail)) | (with_reducible refine in_ok ?_ ?_; focus (first | omega | assumption | ((repeat' refine And.intro ?_ ?_) <;> first | omega | assumption) | fail)) | (rw [p1, so_bd]; try dsimp only) | (rw [b3, so_bd]; try dsimp only) | (rw [o1, so_bd]; try dsimp only) | (rw [so_bd]; try dsimp only))
        all_goals rfl
      · rw [m_X13_numberBehind]
        repeat (first | (with_reducible refine gd_ok ?_ ?_; focus (first | omega | assumption | ((repeat' refine And.intro ?_ ?_) <;> first | omega | assumption) | fail)) | (with_reducible refine ip_ok ?_ ?_; focus (first | omega | assumption | ((repeat' refine And.intro ?_ ?_) <;> first | omega | assumption) | fail)) | (with_reducible refine in_ok ?_ ?_; focus (first | omega | assumption | ((repeat' refine And.intro ?_ ?_) <;> first | omega | assumption) | fail)) | (rw [b4, so_bd]; try dsimp only) | (rw [o2, so_bd]; try dsimp only) | (rw [so_bd]; try dsimp only))
        all_goals rfl
    · refine ⟨fk, fp, tk, bg, at_, v1, bd, ?_, fun lo hi => ?_, f, t1, q1, le, id, fun _ => ⟨rfl, rfl⟩⟩
      · rw [m_X7_wantWord]
        repeat (first | (with_reducible refine gd_ok ?_ ?_; focus (first | omega | assumption | ((repeat' refine And.intro ?_ ?_) <;> first | omega | assumption) | fail)) | (with_reducible refine ip_ok ?_ ?_; focus (first | omega | assumption | ((repeat' refine And.intro ?_ ?_) <;> first | omega | assumption) | fail)) | (with_reducible refine in_ok ?_ ?_; focus (first | omega | assumption | ((repeat' refine And.intro ?_ ?_) <;> first | omega | assumption) | fail)) | (rw [p1, so_bd]; try dsimp only) | (rw [b3, so_bd]; try dsimp only) | (rw [so_bd]; try dsimp only))
        all_goals rfl
      · rw [m_X13_numberBehind]
        repeat (first | (with_reducible refine gd_ok ?_ ?_; focus (first | omega | assumption | ((repeat' refine And.intro ?_ ?_) <;> first | omega | assumption) | fail)) | (with_reducible refine ip_ok ?_ ?_; focus (first | omega | assumption | ((repeat' refine And.intro ?_ ?_) <;> first | omega | assumption) | fail)) | (with_reducible refine in_ok ?_ ?_; focus (first | omega | assumption | ((repeat' refine And.intro ?_ ?_) <;> first | omega | assumption) | fail)) | (rw [b4, so_bd]; try dsimp only) | (rw [so_bd]; try dsimp only))
        all_goals rfl
  · subst b0
    refine ⟨fk, fp, k1, s1, e1, v1, 1, ?_, fun lo hi => ?_, f, t1, Or.inr ⟨f0, rfl⟩, le, id, fun _ => ⟨rfl, rfl⟩⟩
    · have o1 : m_X7_fail N s1 fk fp 1 = some (fk, fp) := c_fa1 f f0
      rw [m_X7_wantWord]
      by_cases w : b = 0
      · repeat (first | (with_reducible refine gd_ok ?_ ?_; focus (first | omega | assumption | ((repeat' refine And.intro ?_ ?_) <;> first | omega | assumption) | fail)) | (with_reducible refine ip_ok ?_ ?_; focus (first | omega | assumption | ((repeat' refine And.intro ?_ ?_) <;> first | omega | assumption) | fail)) | (with_reducible refine in_ok ?_ ?_; focus (first | omega | assumption | ((repeat' refine And.intro ?_ ?_) <;> first | omega | assumption) | fail)) | (rw [p1, so_bd]; try dsimp only) | (rw [b3, so_bd]; try dsimp only) | (rw [o1, so_bd]; try dsimp only) | (rw [so_bd]; try dsimp only))
        all_goals rfl
      · repeat (first | (with_reducible refine gd_ok ?_ ?_; focus (first | omega | assumption | ((repeat' refine And.intro ?_ ?_) <;> first | omega | assumption) | fail)) | (with_reducible refine ip_ok ?_ ?_; focus (first | omega | assumption | ((repeat' refine And.intro ?_ ?_) <;> first | omega | assumption) | fail)) | (with_reducible refine in_ok ?_ ?_; focus (first | omega | assumption | ((repeat' refine And.intro ?_ ?_) <;> first | omega | assumption) | fail)) | (rw [p1, so_bd]; try dsimp only) | (rw [b3, so_bd]; try dsimp only) | (rw [so_bd]; try dsimp only))
        all_goals rfl
    · rw [m_X13_numberBehind]
      repeat (first | (with_reducible refine gd_ok ?_ ?_; focus (first | omega | assumption | ((repeat' refine And.intro ?_ ?_) <;> first | omega | assumption) | fail)) | (with_reducible refine ip_ok ?_ ?_; focus (first | omega | assumption | ((repeat' refine And.intro ?_ ?_) <;> first | omega | assumption) | fail)) | (with_reducible refine in_ok ?_ ?_; focus (first | omega | assumption | ((repeat' refine And.intro ?_ ?_) <;> first | omega | assumption) | fail)) | (rw [so_bd]; try dsimp only))
      all_goals rfl
end
