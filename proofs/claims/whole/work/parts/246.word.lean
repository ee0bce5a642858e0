/-! the reader: a word, and the two states -/
theorem st_ch : ∀ k, k < 7 → ∀ i, i < 6 → 0 ≤ stCh k (i : Nat) ∧ stCh k (i : Nat) ≤ 255 := by decide +kernel
theorem st_l : ∀ k, k < 7 → 2 ≤ stLen k ∧ stLen k ≤ 5 := by decide +kernel
section
variable {N : Nat} {z : Int} {c r : Int → Int}
theorem stc {x : Nat} {i : Int} (hx : x < 7) (i0 : 0 ≤ i) (i1 : i < 6) : 0 ≤ stCh x i ∧ stCh x i ≤ 255 := by
  have q := st_ch x hx i.toNat (by omega)
  rw [show ((i.toNat : Nat) : Int) = i by omega] at q
  exact q
theorem word0 {x : Nat} {e s k y : Int} (hx : x < 7) (y0 : 0 ≤ y) (y1 : y ≤ 6) (n : Nat) : m_X13_isWord_b32 N e s k r x (n + 1) 0 y = some 0 := by
  have l := st_l x hx
  rw [m_X13_isWord_b32]
  by_cases q : stLen x ≤ y
  · repeat (first | (with_reducible refine gd_ok ?_ ?_; focus (first | omega | assumption | ((repeat' refine And.intro ?_ ?_) <;> first | omega | assumption) | fail)) | (with_reducible refine ip_ok ?_ ?_; focus (first | omega | assumption | ((repeat' refine And.intro ?_ ?_) <;> first | omega | assumption) | fail)) | (with_reducible refine in_ok ?_ ?_; focus (first | omega | assumption | ((repeat' refine And.intro ?_ ?_) <;> first | omega | assumption) | fail)) | (rw [so_bd]; try dsimp only))
    all_goals rfl
  · repeat (first | (with_reducible refine gd_ok ?_ ?_; focus (first | omega | assumption | ((repeat' refine And.intro ?_ ?_) <;> first | omega | assumption) | fail)) | (with_reducible refine ip_ok ?_ ?_; focus (first | omega | assumption | ((repeat' refine And.intro ?_ ?_) <;> first | omega | assumption) | fail)) | (with_reducible refine in_ok ?_ ?_; focus (first | omega | assumption | ((repeat' refine And.intro ?_ ?_) <;> first | omega | assumption) | fail)) | (rw [so_bd]; try dsimp only))
    all_goals rfl
theorem word1 (h : TpR z c r) {x : Nat} {e s k : Int} (hx : x < 7) (s0 : 0 ≤ s) (hz : s + stLen x ≤ z) : ∀ (d : Nat) (y : Int) (f1 f2 : Nat), 0 ≤ y → y ≤ stLen x → (stLen x - y).toNat = d → d < f1 → d + 1 < f2 → ∃ b, (b = 0 ∨ b = 1) ∧ m_X7_isWord_b28 N k s e c 1600 x f1 y = some b ∧ m_X13_isWord_b32 N e s k r x f2 1 y = some b := by
  have l := st_l x hx
  obtain ⟨hz', hk⟩ := id h
  intro d
  induction d with
  | zero =>
    intro y f1 f2 y0 y1 hd h1 h2
    obtain ⟨f1, rfl⟩ : ∃ k, f1 = k + 1 := ⟨f1 - 1, by omega⟩
    obtain ⟨f2, rfl⟩ : ∃ k, f2 = k + 1 := ⟨f2 - 1, by omega⟩
    refine ⟨1, Or.inr rfl, ?_, ?_⟩
    · rw [m_X7_isWord_b28]
      repeat (first | (with_reducible refine gd_ok ?_ ?_; focus (first | omega | assumption | ((repeat' refine And.intro ?_ ?_) <;> first | omega | assumption) | fail)) | (with_reducible refine ip_ok ?_ ?_; focus (first | omega | assumption | ((repeat' refine And.intro ?_ ?_) <;> first | omega | assumption) | fail)) | (with_reducible refine in_ok ?_ ?_; focus (first | omega | assumption | ((repeat' refine And.intro ?_ ?_) <;> first | omega | assumption) | fail)) | (rw [so_bd]; try dsimp only))
      all_goals rfl
    · rw [m_X13_isWord_b32]
      repeat (first | (with_reducible refine gd_ok ?_ ?_; focus (first | omega | assumption | ((repeat' refine And.intro ?_ ?_) <;> first | omega | assumption) | fail)) | (with_reducible refine ip_ok ?_ ?_; focus (first | omega | assumption | ((repeat' refine And.intro ?_ ?_) <;> first | omega | assumption) | fail)) | (with_reducible refine in_ok ?_ ?_; focus (first | omega | assumption | ((repeat' refine And.intro ?_ ?_) <;> first | omega | assumption) | fail)) | (rw [so_bd]; try dsimp only))
      all_goals rfl
  | succ d ih =>
    intro y f1 f2 y0 y1 hd h1 h2
    obtain ⟨f1, rfl⟩ : ∃ k, f1 = k + 1 := ⟨f1 - 1, by omega⟩
    obtain ⟨f2, rfl⟩ : ∃ k, f2 = k + 1 + 1 := ⟨f2 - 2, by omega⟩
    obtain ⟨e1, b0, b1⟩ := hk (s + y) (by omega) (by omega)
    have w := stc (x := x) (i := y) hx y0 (by omega)
    by_cases q : c (s + y) = stCh x y
    · obtain ⟨b, p1, p2, p3⟩ := ih (y + 1) f1 (f2 + 1) (by omega) (by omega) (by omega) (by omega) (by omega)
      refine ⟨b, p1, ?_, ?_⟩
      · rw [← p2, m_X7_isWord_b28]
        repeat (first | (with_reducible refine gd_ok ?_ ?_; focus (first | omega | assumption | ((repeat' refine And.intro ?_ ?_) <;> first | omega | assumption) | fail)) | (with_reducible refine ip_ok ?_ ?_; focus (first | omega | assumption | ((repeat' refine And.intro ?_ ?_) <;> first | omega | assumption) | fail)) | (with_reducible refine in_ok ?_ ?_; focus (first | omega | assumption | ((repeat' refine And.intro ?_ ?_) <;> first | omega | assumption) | fail)) | (rw [so_bd]; try dsimp only))
        all_goals rfl
      · rw [← p3, m_X13_isWord_b32]
        repeat (first | (with_reducible refine gd_ok ?_ ?_; focus (first | omega | assumption | ((repeat' refine And.intro ?_ ?_) <;> first | omega | assumption) | fail)) | (with_reducible refine ip_ok ?_ ?_; focus (first | omega | assumption | ((repeat' refine And.intro ?_ ?_) <;> first | omega | assumption) | fail)) | (with_reducible refine in_ok ?_ ?_; focus (first | omega | assumption | ((repeat' refine And.intro ?_ ?_) <;> first | omega | assumption) | fail)) | (rw [so_bd]; try dsimp only))
        all_goals rfl
    · refine ⟨0, Or.inl rfl, ?_, ?_⟩
      · rw [m_X7_isWord_b28]
        repeat (first | (with_reducible refine gd_ok ?_ ?_; focus (first | omega | assumption | ((repeat' refine And.intro ?_ ?_) <;> first | omega | assumption) | fail)) | (with_reducible refine ip_ok ?_ ?_; focus (first | omega | assumption | ((repeat' refine And.intro ?_ ?_) <;> first | omega | assumption) | fail)) | (with_reducible refine in_ok ?_ ?_; focus (first | omega | assumption | ((repeat' refine And.intro ?_ ?_) <;> first | omega | assumption) | fail)) | (rw [so_bd]; try dsimp only))
        all_goals rfl
      · rw [m_X13_isWord_b32]
        repeat (first | (with_reducible refine gd_ok ?_ ?_; focus (first | omega | assumption | ((repeat' refine And.intro ?_ ?_) <;> first | omega | assumption) | fail)) | (with_reducible refine ip_ok ?_ ?_; focus (first | omega | assumption | ((repeat' refine And.intro ?_ ?_) <;> first | omega | assumption) | fail)) | (with_reducible refine in_ok ?_ ?_; focus (first | omega | assumption | ((repeat' refine And.intro ?_ ?_) <;> first | omega | assumption) | fail)) | (rw [so_bd]; try dsimp only))
        exact word0 hx (by omega) (by omega) f2
def CT (z k s e v : Int) : Prop := 0 ≤ s ∧ s ≤ e ∧ e ≤ z ∧ 0 ≤ k ∧ k ≤ 4 ∧ 0 ≤ v ∧ v ≤ 1000000
theorem word (hN : 40000 ≤ N) (h : TpR z c r) {x : Nat} {k s e v : Int} (hx : x < 7) (t : CT z k s e v) : ∃ b, (b = 0 ∨ b = 1) ∧ (b = 1 → k = 1) ∧ m_X7_isWord N k s e c 1600 x = some b ∧ m_X13_isWord N e s k r x = some b := by
  have l := st_l x hx
  obtain ⟨hz', -⟩ := id h
  obtain ⟨t1, t2, t3, t4, t5, -, -⟩ := t
  obtain ⟨n, rfl⟩ : ∃ k, N = k + 1 := ⟨N - 1, by omega⟩
  have z0 := word0 (N := n + 1) (r := r) (e := e) (s := s) (k := k) (y := 0) hx (by omega) (by omega) n
  by_cases q : k = 1
  · by_cases q1 : e - s = stLen x
    · obtain ⟨b, p1, p2, p3⟩ := word1 (N := n + 1) h (e := e) (s := s) (k := k) hx t1 (by omega) (stLen x).toNat 0 (n + 1) (n + 1) (by omega) (by omega) (by omega) (by omega) (by omega)
      refine ⟨b, p1, fun _ => q, ?_, ?_⟩
      · rw [m_X7_isWord]
        repeat (first | (with_reducible refine gd_ok ?_ ?_; focus (first | omega | assumption | ((repeat' refine And.intro ?_ ?_) <;> first | omega | assumption) | fail)) | (with_reducible refine ip_ok ?_ ?_; focus (first | omega | assumption | ((repeat' refine And.intro ?_ ?_) <;> first | omega | assumption) | fail)) | (with_reducible refine in_ok ?_ ?_; focus (first | omega | assumption | ((repeat' refine And.intro ?_ ?_) <;> first | omega | assumption) | fail)) | (rw [so_bd]; try dsimp only))
        exact p2
      · rw [m_X13_isWord]
        repeat (first | (with_reducible refine gd_ok ?_ ?_; focus (first | omega | assumption | ((repeat' refine And.intro ?_ ?_) <;> first | omega | assumption) | fail)) | (with_reducible refine ip_ok ?_ ?_; focus (first | omega | assumption | ((repeat' refine And.intro ?_ ?_) <;> first | omega | assumption) | fail)) | (with_reducible refine in_ok ?_ ?_; focus (first | omega | assumption | ((repeat' refine And.intro ?_ ?_) <;> first | omega | assumption) | fail)) | (rw [so_bd]; try dsimp only))
        exact p3
    · refine ⟨0, Or.inl rfl, by omega, ?_, ?_⟩
      · rw [m_X7_isWord]
        repeat (first | (with_reducible refine gd_ok ?_ ?_; focus (first | omega | assumption | ((repeat' refine And.intro ?_ ?_) <;> first | omega | assumption) | fail)) | (with_reducible refine ip_ok ?_ ?_; focus (first | omega | assumption | ((repeat' refine And.intro ?_ ?_) <;> first | omega | assumption) | fail)) | (with_reducible refine in_ok ?_ ?_; focus (first | omega | assumption | ((repeat' refine And.intro ?_ ?_) <;> first | omega | assumption) | fail)) | (rw [so_bd]; try dsimp only))
        all_goals rfl
      · rw [m_X13_isWord]
        repeat (first | (with_reducible refine gd_ok ?_ ?_; focus (first | omega | assumption | ((repeat' refine And.intro ?_ ?_) <;> first | omega | assumption) | fail)) | (with_reducible refine ip_ok ?_ ?_; focus (first | omega | assumption | ((repeat' refine And.intro ?_ ?_) <;> first | omega | assumption) | fail)) | (with_reducible refine in_ok ?_ ?_; focus (first | omega | assumption | ((repeat' refine And.intro ?_ ?_) <;> first | omega | assumption) | fail)) | (rw [so_bd]; try dsimp only))
        exact z0
  · refine ⟨0, Or.inl rfl, by omega, ?_, ?_⟩
    · rw [m_X7_isWord]
      repeat (first | (with_reducible refine gd_ok ?_ ?_; focus (first | omega | assumption | ((repeat' refine And.intro ?_ ?_) <;> first | omega | assumption) | fail)) | (with_reducible refine ip_ok ?_ ?_; focus (first | omega | assumption | ((repeat' refine And.intro ?_ ?_) <;> first | omega | assumption) | fail)) | (with_reducible refine in_ok ?_ ?_; focus (first | omega | assumption | ((repeat' refine And.intro ?_ ?_) <;> first | omega | assumption) | fail)) | (rw [so_bd]; try dsimp only))
      all_goals rfl
    · rw [m_X13_isWord]
      repeat (first | (with_reducible refine gd_ok ?_ ?_; focus (first | omega | assumption | ((repeat' refine And.intro ?_ ?_) <;> first | omega | assumption) | fail)) | (with_reducible refine ip_ok ?_ ?_; focus (first | omega | assumption | ((repeat' refine And.intro ?_ ?_) <;> first | omega | assumption) | fail)) | (with_reducible refine in_ok ?_ ?_; focus (first | omega | assumption | ((repeat' refine And.intro ?_ ?_) <;> first | omega | assumption) | fail)) | (rw [so_bd]; try dsimp only))
      exact z0
def Rs (fk fp k s e v at_ bg tk va bd : Int) : Prop := (fk = 0 ∧ bd = 0 ∧ tk = k ∧ bg = s ∧ at_ = e ∧ va = min v 10000) ∨ (fk ≠ 0 ∧ bd = 1)
def Ra (N : Nat) (z : Int) (c : Int → Int) (fk fp k s e v at_ bg tk va bd : Int) : Prop := (fk = 0 ∧ bd = 0 ∧ ∃ v', m_X7_step N 0 z c 1600 k s e v = some (tk, bg, at_, v') ∧ e ≤ bg ∧ (tk ≠ 0 → bg < at_) ∧ 0 ≤ v' ∧ v' ≤ 1000000 ∧ va = min v' 10000) ∨ (fk ≠ 0 ∧ bd = 1)
def FR (fk fp : Int) : Prop := 0 ≤ fk ∧ fk ≤ 4 ∧ -1 ≤ fp ∧ fp ≤ 1600
/-- what was read goes by, in the reference -/
theorem r_passes (hN : 40000 ≤ N) (h : TpR z c r) {fk fp k s e v at_ bg tk va bd : Int} (f : FR fk fp) (t : CT z k s e v) (t' : CT z tk bg at_ va) (q : Rs fk fp k s e v at_ bg tk va bd) : ∃ at' bg' tk' va', m_X13_passes N z bd r at_ bg tk va = some (at', bg', tk', va') ∧ CT z tk' bg' at' va' ∧ Ra N z c fk fp k s e v at' bg' tk' va' bd := by
  rcases q with ⟨f0, b0, e1, e2, e3, e4⟩ | ⟨f0, b0⟩
  · obtain ⟨t1, t2, t3, t4, t5, t6, t7⟩ := t
    obtain ⟨k', s', e', v', w', p1, p2, p3⟩ := token (N := N) hN h (ki := k) (st := s) (nu := v) (be := bg) (to := tk) (va := va) (a := e) (by omega) (by omega)
    obtain ⟨o1, o2, o3, o4, o5, o6, o7, o8, o9, o10⟩ := p3
    subst e3 b0
    refine ⟨e', s', k', w', ?_, ⟨by omega, by omega, by omega, by omega, by omega, by omega, by omega⟩, Or.inl ⟨f0, rfl, v', p1, o1, o7, o8, o9, o10⟩⟩
    rw [m_X13_passes]
    repeat (first | (with_reducible refine gd_ok ?_ ?_; focus (first | omega | assumption | ((repeat' refine And.intro ?_ ?_) <;> first | omega | assumption) | fail)) | (with_reducible refine ip_ok ?_ ?_; focus (first | omega | assumption | ((repeat' refine And.intro ?_ ?_) <;> first | omega | assumption) | fail)) | (with_reducible refine in_ok ?_ ?_; focus (first | omega | assumption | ((repeat' refine And.intro ?_ ?_) <;> first | omega | assumption) | fail)) | (rw [p2, so_bd]; try dsimp only) | (rw [so_bd]; try dsimp only))
    all_goals rfl
  · subst b0
    refine ⟨at_, bg, tk, va, ?_, t', Or.inr ⟨f0, rfl⟩⟩
    rw [m_X13_passes]
    repeat (first | (with_reducible refine gd_ok ?_ ?_; focus (first | omega | assumption | ((repeat' refine And.intro ?_ ?_) <;> first | omega | assumption) | fail)) | (with_reducible refine ip_ok ?_ ?_; focus (first | omega | assumption | ((repeat' refine And.intro ?_ ?_) <;> first | omega | assumption) | fail)) | (with_reducible refine in_ok ?_ ?_; focus (first | omega | assumption | ((repeat' refine And.intro ?_ ?_) <;> first | omega | assumption) | fail)) | (rw [so_bd]; try dsimp only))
    all_goals rfl
/-- the class steps up to the reference -/
theorem c_step (h : TpR z c r) {fk fp k s e v at_ bg tk va bd : Int} (f : FR fk fp) (t : CT z k s e v) (t' : CT z tk bg at_ va) (q : Ra N z c fk fp k s e v at_ bg tk va bd) : ∃ k' s' e' v', m_X7_step N fk z c 1600 k s e v = some (k', s', e', v') ∧ CT z k' s' e' v' ∧ e ≤ e' ∧ (fk = 0 → k' ≠ 0 → e < e') ∧ Rs fk fp k' s' e' v' at_ bg tk va bd := by
  obtain ⟨u1, u2, u3, u4, u5, u6, u7⟩ := t'
  obtain ⟨g1, g2, g3, g4⟩ := f
  rcases q with ⟨f0, b0, v', p1, o1, o7, o8, o9, o10⟩ | ⟨f0, b0⟩
  · subst f0
    exact ⟨tk, bg, at_, v', p1, ⟨u1, u2, u3, u4, u5, o8, o9⟩, by omega, fun _ w => by have := o7 w; omega, Or.inl ⟨rfl, b0, rfl, rfl, rfl, o10⟩⟩
  · refine ⟨k, s, e, v, ?_, t, Int.le_refl _, fun w => absurd w f0, Or.inr ⟨f0, b0⟩⟩
    rw [m_X7_step]
    repeat (first | (with_reducible refine gd_ok ?_ ?_; focus (first | omega | assumption | ((repeat' refine And.intro ?_ ?_) <;> first | omega | assumption) | fail)) | (with_reducible refine ip_ok ?_ ?_; focus (first | omega | assumption | ((repeat' refine And.intro ?_ ?_) <;> first | omega | assumption) | fail)) | (with_reducible refine in_ok ?_ ?_; focus (first | omega | assumption | ((repeat' refine And.intro ?_ ?_) <;> first | omega | assumption) | fail)) | (rw [so_bd]; try dsimp only))
    all_goals rfl
/-- a fault at the token -/
theorem b_fail {fk fp k s e v at_ bg tk va bd x : Int} (hz : z ≤ 1600) (f : FR fk fp) (t : CT z k s e v) (q : Rs fk fp k s e v at_ bg tk va bd) (hx : 1 ≤ x ∧ x ≤ 4) : ∃ fk' fp', m_X7_fail N s fk fp x = some (fk', fp') ∧ m_X13_faults N bg fk fp bd x = some (fk', fp', 1) ∧ FR fk' fp' ∧ fk' ≠ 0 := by
  obtain ⟨t1, t2, t3, t4, t5, t6, t7⟩ := t
  obtain ⟨g1, g2, g3, g4⟩ := id f
  rcases q with ⟨f0, b0, e1, e2, e3, e4⟩ | ⟨f0, b0⟩
  · subst b0 e2
    refine ⟨x, bg, ?_, ?_, ⟨by omega, by omega, by omega, by omega⟩, by omega⟩
    · rw [m_X7_fail]
      repeat (first | (with_reducible refine gd_ok ?_ ?_; focus (first | omega | assumption | ((repeat' refine And.intro ?_ ?_) <;> first | omega | assumption) | fail)) | (with_reducible refine ip_ok ?_ ?_; focus (first | omega | assumption | ((repeat' refine And.intro ?_ ?_) <;> first | omega | assumption) | fail)) | (with_reducible refine in_ok ?_ ?_; focus (first | omega | assumption | ((repeat' refine And.intro ?_ ?_) <;> first | omega | assumption) | fail)) | (rw [so_bd]; try dsimp only))
      all_goals rfl
    · rw [m_X13_faults]
      repeat (first | (with_reducible refine gd_ok ?_ ?_; focus (first | omega | assumption | ((repeat' refine And.intro ?_ ?_) <;> first | omega | assumption) | fail)) | (with_reducible refine ip_ok ?_ ?_; focus (first | omega | assumption | ((repeat' refine And.intro ?_ ?_) <;> first | omega | assumption) | fail)) | (with_reducible refine in_ok ?_ ?_; focus (first | omega | assumption | ((repeat' refine And.intro ?_ ?_) <;> first | omega | assumption) | fail)) | (rw [so_bd]; try dsimp only))
      all_goals rfl
  · subst b0
    refine ⟨fk, fp, ?_, ?_, f, f0⟩
    · rw [m_X7_fail]
      repeat (first | (with_reducible refine gd_ok ?_ ?_; focus (first | omega | assumption | ((repeat' refine And.intro ?_ ?_) <;> first | omega | assumption) | fail)) | (with_reducible refine ip_ok ?_ ?_; focus (first | omega | assumption | ((repeat' refine And.intro ?_ ?_) <;> first | omega | assumption) | fail)) | (with_reducible refine in_ok ?_ ?_; focus (first | omega | assumption | ((repeat' refine And.intro ?_ ?_) <;> first | omega | assumption) | fail)) | (rw [so_bd]; try dsimp only))
      all_goals rfl
    · rw [m_X13_faults]
      repeat (first | (with_reducible refine gd_ok ?_ ?_; focus (first | omega | assumption | ((repeat' refine And.intro ?_ ?_) <;> first | omega | assumption) | fail)) | (with_reducible refine ip_ok ?_ ?_; focus (first | omega | assumption | ((repeat' refine And.intro ?_ ?_) <;> first | omega | assumption) | fail)) | (with_reducible refine in_ok ?_ ?_; focus (first | omega | assumption | ((repeat' refine And.intro ?_ ?_) <;> first | omega | assumption) | fail)) | (rw [so_bd]; try dsimp only))
      all_goals rfl
end
