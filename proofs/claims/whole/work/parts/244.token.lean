/-! the reader: the same token on both sides -/
section
variable {N : Nat} {z : Int} {c r : Int → Int}
theorem isAt1 (h : TpR z c r) {a lo hi : Int} (a0 : 0 ≤ a) (a1 : a < z) (l0 : 0 ≤ lo) (h0 : hi ≤ 255) (hl : lo ≤ c a) (hh : c a ≤ hi) : m_X13_isAt N z a r lo hi = some 1 := by
  obtain ⟨hz, hk⟩ := h
  obtain ⟨e, b0, b1⟩ := hk a a0 a1
  rw [m_X13_isAt, ← e]
  have q := in1 (N := N) (v := c a) (lo := lo) (hi := hi) (by constructor <;> omega) (by constructor <;> omega) (by constructor <;> omega) ⟨hl, hh⟩
  repeat (first | (with_reducible refine gd_ok ?_ ?_; focus (first | omega | assumption | ((repeat' refine And.intro ?_ ?_) <;> first | omega | assumption) | fail)) | (with_reducible refine ip_ok ?_ ?_; focus (first | omega | assumption | ((repeat' refine And.intro ?_ ?_) <;> first | omega | assumption) | fail)) | (with_reducible refine in_ok ?_ ?_; focus (first | omega | assumption | ((repeat' refine And.intro ?_ ?_) <;> first | omega | assumption) | fail)) | (rw [q, so_bd]; try dsimp only) | (rw [so_bd]; try dsimp only))
  all_goals rfl
theorem isAt0 (h : TpR z c r) {a lo hi : Int} (a0 : 0 ≤ a) (a1 : a ≤ z) (l0 : 0 ≤ lo ∧ lo ≤ 255) (h0 : 0 ≤ hi ∧ hi ≤ 255) (hl : a < z → c a < lo ∨ hi < c a) : m_X13_isAt N z a r lo hi = some 0 := by
  obtain ⟨hz, hk⟩ := h
  rw [m_X13_isAt]
  by_cases q : z ≤ a
  · repeat (first | (with_reducible refine gd_ok ?_ ?_; focus (first | omega | assumption | ((repeat' refine And.intro ?_ ?_) <;> first | omega | assumption) | fail)) | (with_reducible refine ip_ok ?_ ?_; focus (first | omega | assumption | ((repeat' refine And.intro ?_ ?_) <;> first | omega | assumption) | fail)) | (with_reducible refine in_ok ?_ ?_; focus (first | omega | assumption | ((repeat' refine And.intro ?_ ?_) <;> first | omega | assumption) | fail)) | (rw [so_bd]; try dsimp only))
    all_goals rfl
  · obtain ⟨e, b0, b1⟩ := hk a a0 (by omega)
    have hl' := hl (by omega)
    rw [← e]
    have q := in0 (N := N) (v := c a) (lo := lo) (hi := hi) (by constructor <;> omega) (by constructor <;> omega) (by constructor <;> omega) (by omega)
    repeat (first | (with_reducible refine gd_ok ?_ ?_; focus (first | omega | assumption | ((repeat' refine And.intro ?_ ?_) <;> first | omega | assumption) | fail)) | (with_reducible refine ip_ok ?_ ?_; focus (first | omega | assumption | ((repeat' refine And.intro ?_ ?_) <;> first | omega | assumption) | fail)) | (with_reducible refine in_ok ?_ ?_; focus (first | omega | assumption | ((repeat' refine And.intro ?_ ?_) <;> first | omega | assumption) | fail)) | (rw [q, so_bd]; try dsimp only) | (rw [so_bd]; try dsimp only))
    all_goals rfl
theorem blank1 {v : Int} (h : v = 32 ∨ v = 10) : m_X7_isBlank N v = some 1 := by
  rw [m_X7_isBlank]
  refine gd_ok (by constructor <;> omega) ?_
  by_cases q : v = 32
  · exact if_pos q
  · exact (if_neg q).trans (if_pos (by omega))
theorem blank0 {v : Int} (b : 0 ≤ v ∧ v ≤ 255) (h : ¬ (v = 32 ∨ v = 10)) : m_X7_isBlank N v = some 0 := by
  rw [m_X7_isBlank]
  refine gd_ok (by constructor <;> omega) ?_
  exact (if_neg (by omega)).trans (if_neg (by omega))
def kd (v : Int) : Int := if 97 ≤ v ∧ v ≤ 122 then 1 else if 48 ≤ v ∧ v ≤ 57 then 2 else if v = 59 then 3 else 4
theorem kd_i (v : Int) : (kd v = 1 ∧ 97 ≤ v ∧ v ≤ 122) ∨ (kd v = 2 ∧ 48 ≤ v ∧ v ≤ 57) ∨ (kd v = 3 ∧ v = 59) ∨ (kd v = 4 ∧ ¬ (97 ≤ v ∧ v ≤ 122) ∧ ¬ (48 ≤ v ∧ v ≤ 57) ∧ v ≠ 59) := by
  unfold kd
  split
  · omega
  · split
    · omega
    · split <;> omega
theorem kind_ok {v : Int} (b : 0 ≤ v ∧ v ≤ 255) : m_X7_kindOf N v = some (kd v) := by
  rcases kd_i v with q | q | q | q
  · rw [q.1, m_X7_kindOf]
    repeat (first | (with_reducible refine gd_ok ?_ ?_; focus (first | omega | assumption | ((repeat' refine And.intro ?_ ?_) <;> first | omega | assumption) | fail)) | (with_reducible refine ip_ok ?_ ?_; focus (first | omega | assumption | ((repeat' refine And.intro ?_ ?_) <;> first | omega | assumption) | fail)) | (with_reducible refine in_ok ?_ ?_; focus (first | omega | assumption | ((repeat' refine And.intro ?_ ?_) <;> first | omega | assumption) | fail)) | (rw [so_bd]; try dsimp only))
    all_goals rfl
  · rw [q.1, m_X7_kindOf]
    by_cases w : v < 97
    · repeat (first | (with_reducible refine gd_ok ?_ ?_; focus (first | omega | assumption | ((repeat' refine And.intro ?_ ?_) <;> first | omega | assumption) | fail)) | (with_reducible refine ip_ok ?_ ?_; focus (first | omega | assumption | ((repeat' refine And.intro ?_ ?_) <;> first | omega | assumption) | fail)) | (with_reducible refine in_ok ?_ ?_; focus (first | omega | assumption | ((repeat' refine And.intro ?_ ?_) <;> first | omega | assumption) | fail)) | (rw [so_bd]; try dsimp only))
      rw [m_X7_kindOf_b14]
      repeat (first | (with_reducible refine gd_ok ?_ ?_; focus (first | omega | assumption | ((repeat' refine And.intro ?_ ?_) <;> first | omega | assumption) | fail)) | (with_reducible refine ip_ok ?_ ?_; focus (first | omega | assumption | ((repeat' refine And.intro ?_ ?_) <;> first | omega | assumption) | fail)) | (with_reducible refine in_ok ?_ ?_; focus (first | omega | assumption | ((repeat' refine And.intro ?_ ?_) <;> first | omega | assumption) | fail)) | (rw [so_bd]; try dsimp only))
      all_goals rfl
    · omega
  · rw [q.1, m_X7_kindOf]
    repeat (first | (with_reducible refine gd_ok ?_ ?_; focus (first | omega | assumption | ((repeat' refine And.intro ?_ ?_) <;> first | omega | assumption) | fail)) | (with_reducible refine ip_ok ?_ ?_; focus (first | omega | assumption | ((repeat' refine And.intro ?_ ?_) <;> first | omega | assumption) | fail)) | (with_reducible refine in_ok ?_ ?_; focus (first | omega | assumption | ((repeat' refine And.intro ?_ ?_) <;> first | omega | assumption) | fail)) | (rw [so_bd]; try dsimp only))
    rw [m_X7_kindOf_b14]
    repeat (first | (with_reducible refine gd_ok ?_ ?_; focus (first | omega | assumption | ((repeat' refine And.intro ?_ ?_) <;> first | omega | assumption) | fail)) | (with_reducible refine ip_ok ?_ ?_; focus (first | omega | assumption | ((repeat' refine And.intro ?_ ?_) <;> first | omega | assumption) | fail)) | (with_reducible refine in_ok ?_ ?_; focus (first | omega | assumption | ((repeat' refine And.intro ?_ ?_) <;> first | omega | assumption) | fail)) | (rw [so_bd]; try dsimp only))
    rw [m_X7_kindOf_b28]
    repeat (first | (with_reducible refine gd_ok ?_ ?_; focus (first | omega | assumption | ((repeat' refine And.intro ?_ ?_) <;> first | omega | assumption) | fail)) | (with_reducible refine ip_ok ?_ ?_; focus (first | omega | assumption | ((repeat' refine And.intro ?_ ?_) <;> first | omega | assumption) | fail)) | (with_reducible refine in_ok ?_ ?_; focus (first | omega | assumption | ((repeat' refine And.intro ?_ ?_) <;> first | omega | assumption) | fail)) | (rw [so_bd]; try dsimp only))
    all_goals rfl
  · have q0 : m_X7_kindOf_b28 N v = some 4 := by
      rw [m_X7_kindOf_b28]
      repeat (first | (with_reducible refine gd_ok ?_ ?_; focus (first | omega | assumption | ((repeat' refine And.intro ?_ ?_) <;> first | omega | assumption) | fail)) | (with_reducible refine ip_ok ?_ ?_; focus (first | omega | assumption | ((repeat' refine And.intro ?_ ?_) <;> first | omega | assumption) | fail)) | (with_reducible refine in_ok ?_ ?_; focus (first | omega | assumption | ((repeat' refine And.intro ?_ ?_) <;> first | omega | assumption) | fail)) | (rw [so_bd]; try dsimp only))
      all_goals rfl
    have q1 : m_X7_kindOf_b14 N v = some 4 := by
      rw [m_X7_kindOf_b14]
      by_cases w : v < 48
      · repeat (first | (with_reducible refine gd_ok ?_ ?_; focus (first | omega | assumption | ((repeat' refine And.intro ?_ ?_) <;> first | omega | assumption) | fail)) | (with_reducible refine ip_ok ?_ ?_; focus (first | omega | assumption | ((repeat' refine And.intro ?_ ?_) <;> first | omega | assumption) | fail)) | (with_reducible refine in_ok ?_ ?_; focus (first | omega | assumption | ((repeat' refine And.intro ?_ ?_) <;> first | omega | assumption) | fail)) | (rw [so_bd]; try dsimp only))
        exact q0
      · repeat (first | (with_reducible refine gd_ok ?_ ?_; focus (first | omega | assumption | ((repeat' refine And.intro ?_ ?_) <;> first | omega | assumption) | fail)) | (with_reducible refine ip_ok ?_ ?_; focus (first | omega | assumption | ((repeat' refine And.intro ?_ ?_) <;> first | omega | assumption) | fail)) | (with_reducible refine in_ok ?_ ?_; focus (first | omega | assumption | ((repeat' refine And.intro ?_ ?_) <;> first | omega | assumption) | fail)) | (rw [so_bd]; try dsimp only))
        exact q0
    rw [q.1, m_X7_kindOf]
    by_cases w : v < 97
    · repeat (first | (with_reducible refine gd_ok ?_ ?_; focus (first | omega | assumption | ((repeat' refine And.intro ?_ ?_) <;> first | omega | assumption) | fail)) | (with_reducible refine ip_ok ?_ ?_; focus (first | omega | assumption | ((repeat' refine And.intro ?_ ?_) <;> first | omega | assumption) | fail)) | (with_reducible refine in_ok ?_ ?_; focus (first | omega | assumption | ((repeat' refine And.intro ?_ ?_) <;> first | omega | assumption) | fail)) | (rw [so_bd]; try dsimp only))
      exact q1
    · repeat (first | (with_reducible refine gd_ok ?_ ?_; focus (first | omega | assumption | ((repeat' refine And.intro ?_ ?_) <;> first | omega | assumption) | fail)) | (with_reducible refine ip_ok ?_ ?_; focus (first | omega | assumption | ((repeat' refine And.intro ?_ ?_) <;> first | omega | assumption) | fail)) | (with_reducible refine in_ok ?_ ?_; focus (first | omega | assumption | ((repeat' refine And.intro ?_ ?_) <;> first | omega | assumption) | fail)) | (rw [so_bd]; try dsimp only))
      exact q1
theorem skips (h : TpR z c r) {ki st nu be to va : Int} : ∀ (d : Nat) (a : Int) (f1 f2 : Nat), 0 ≤ a → a ≤ z → (z - a).toNat = d → d < f1 → d < f2 → ∃ a' n', a ≤ a' ∧ a' ≤ z ∧ (a' < z → ¬ (c a' = 32 ∨ c a' = 10)) ∧ m_X7_step_b8 N 0 z c 1600 ki st nu f1 a = m_X7_step_b47 N 0 z c 1600 ki st a' nu ∧ m_X13_next_b0 N z r be to va f2 a = m_X13_next_b0 N z r be to va (n' + 1) a' := by
  obtain ⟨hz, hk⟩ := id h
  intro d
  induction d with
  | zero =>
    intro a f1 f2 a0 a1 hd h1 h2
    obtain ⟨f1, rfl⟩ : ∃ k, f1 = k + 1 := ⟨f1 - 1, by omega⟩
    obtain ⟨f2, rfl⟩ : ∃ k, f2 = k + 1 := ⟨f2 - 1, by omega⟩
    refine ⟨a, f2, Int.le_refl _, a1, by omega, ?_, rfl⟩
    rw [m_X7_step_b8]
    repeat (first | (with_reducible refine gd_ok ?_ ?_; focus (first | omega | assumption | ((repeat' refine And.intro ?_ ?_) <;> first | omega | assumption) | fail)) | (with_reducible refine ip_ok ?_ ?_; focus (first | omega | assumption | ((repeat' refine And.intro ?_ ?_) <;> first | omega | assumption) | fail)) | (with_reducible refine in_ok ?_ ?_; focus (first | omega | assumption | ((repeat' refine And.intro ?_ ?_) <;> first | omega | assumption) | fail)) | (rw [so_bd]; try dsimp only))
    all_goals rfl
  | succ d ih =>
    intro a f1 f2 a0 a1 hd h1 h2
    obtain ⟨f1, rfl⟩ : ∃ k, f1 = k + 1 := ⟨f1 - 1, by omega⟩
    obtain ⟨f2, rfl⟩ : ∃ k, f2 = k + 1 := ⟨f2 - 1, by omega⟩
    obtain ⟨e, b0, b1⟩ := hk a a0 (by omega)
    by_cases q : c a = 32 ∨ c a = 10
    · obtain ⟨a', n', p1, p2, p3, p4, p5⟩ := ih (a + 1) f1 f2 (by omega) (by omega) (by omega) (by omega) (by omega)
      refine ⟨a', n', by omega, p2, p3, ?_, ?_⟩
      · rw [← p4, m_X7_step_b8]
        have w := blank1 (N := N) q
        repeat (first | (with_reducible refine gd_ok ?_ ?_; focus (first | omega | assumption | ((repeat' refine And.intro ?_ ?_) <;> first | omega | assumption) | fail)) | (with_reducible refine ip_ok ?_ ?_; focus (first | omega | assumption | ((repeat' refine And.intro ?_ ?_) <;> first | omega | assumption) | fail)) | (with_reducible refine in_ok ?_ ?_; focus (first | omega | assumption | ((repeat' refine And.intro ?_ ?_) <;> first | omega | assumption) | fail)) | (rw [w, so_bd]; try dsimp only) | (rw [so_bd]; try dsimp only))
        all_goals rfl
      · rw [← p5, m_X13_next_b0]
        by_cases q1 : c a = 32
        · have i := isAt1 (N := N) h (lo := 32) (hi := 32) a0 (by omega) (by omega) (by omega) (by omega) (by omega)
          repeat (first | (with_reducible refine gd_ok ?_ ?_; focus (first | omega | assumption | ((repeat' refine And.intro ?_ ?_) <;> first | omega | assumption) | fail)) | (with_reducible refine ip_ok ?_ ?_; focus (first | omega | assumption | ((repeat' refine And.intro ?_ ?_) <;> first | omega | assumption) | fail)) | (with_reducible refine in_ok ?_ ?_; focus (first | omega | assumption | ((repeat' refine And.intro ?_ ?_) <;> first | omega | assumption) | fail)) | (rw [i, so_bd]; try dsimp only) | (rw [so_bd]; try dsimp only))
          all_goals rfl
        · have i := isAt0 (N := N) h (lo := 32) (hi := 32) a0 a1 (by omega) (by omega) (by omega)
          have j := isAt1 (N := N) h (lo := 10) (hi := 10) a0 (by omega) (by omega) (by omega) (by omega) (by omega)
          repeat (first | (with_reducible refine gd_ok ?_ ?_; focus (first | omega | assumption | ((repeat' refine And.intro ?_ ?_) <;> first | omega | assumption) | fail)) | (with_reducible refine ip_ok ?_ ?_; focus (first | omega | assumption | ((repeat' refine And.intro ?_ ?_) <;> first | omega | assumption) | fail)) | (with_reducible refine in_ok ?_ ?_; focus (first | omega | assumption | ((repeat' refine And.intro ?_ ?_) <;> first | omega | assumption) | fail)) | (rw [i, so_bd]; try dsimp only) | (rw [j, so_bd]; try dsimp only) | (rw [so_bd]; try dsimp only))
          all_goals rfl
    · refine ⟨a, f2, Int.le_refl _, a1, fun _ => q, ?_, rfl⟩
      rw [m_X7_step_b8]
      have w := blank0 (N := N) ⟨b0, b1⟩ q
      repeat (first | (with_reducible refine gd_ok ?_ ?_; focus (first | omega | assumption | ((repeat' refine And.intro ?_ ?_) <;> first | omega | assumption) | fail)) | (with_reducible refine ip_ok ?_ ?_; focus (first | omega | assumption | ((repeat' refine And.intro ?_ ?_) <;> first | omega | assumption) | fail)) | (with_reducible refine in_ok ?_ ?_; focus (first | omega | assumption | ((repeat' refine And.intro ?_ ?_) <;> first | omega | assumption) | fail)) | (rw [w, so_bd]; try dsimp only) | (rw [so_bd]; try dsimp only))
      all_goals rfl
theorem letters (h : TpR z c r) {st nu be va : Int} : ∀ (d : Nat) (a : Int) (f1 f2 : Nat), 0 ≤ a → a ≤ z → (z - a).toNat = d → d < f1 → d < f2 → ∃ a', a ≤ a' ∧ a' ≤ z ∧ (a < z → kd (c a) = 1 → a < a') ∧ m_X7_step_b118 N 0 z c 1600 1 st f1 a nu = some (1, st, a', nu) ∧ m_X13_next_b83 N z r be 1 va f2 a = some (a', be, 1, va) := by
  obtain ⟨hz, hk⟩ := id h
  intro d
  induction d with
  | zero =>
    intro a f1 f2 a0 a1 hd h1 h2
    obtain ⟨f1, rfl⟩ : ∃ k, f1 = k + 1 := ⟨f1 - 1, by omega⟩
    obtain ⟨f2, rfl⟩ : ∃ k, f2 = k + 1 := ⟨f2 - 1, by omega⟩
    refine ⟨a, Int.le_refl _, a1, by omega, ?_, ?_⟩
    · rw [m_X7_step_b118]
      repeat (first | (with_reducible refine gd_ok ?_ ?_; focus (first | omega | assumption | ((repeat' refine And.intro ?_ ?_) <;> first | omega | assumption) | fail)) | (with_reducible refine ip_ok ?_ ?_; focus (first | omega | assumption | ((repeat' refine And.intro ?_ ?_) <;> first | omega | assumption) | fail)) | (with_reducible refine in_ok ?_ ?_; focus (first | omega | assumption | ((repeat' refine And.intro ?_ ?_) <;> first | omega | assumption) | fail)) | (rw [so_bd]; try dsimp only))
      all_goals rfl
    · have i := isAt0 (N := N) h (lo := 97) (hi := 122) a0 a1 (by omega) (by omega) (by omega)
      rw [m_X13_next_b83]
      repeat (first | (with_reducible refine gd_ok ?_ ?_; focus (first | omega | assumption | ((repeat' refine And.intro ?_ ?_) <;> first | omega | assumption) | fail)) | (with_reducible refine ip_ok ?_ ?_; focus (first | omega | assumption | ((repeat' refine And.intro ?_ ?_) <;> first | omega | assumption) | fail)) | (with_reducible refine in_ok ?_ ?_; focus (first | omega | assumption | ((repeat' refine And.intro ?_ ?_) <;> first | omega | assumption) | fail)) | (rw [i, so_bd]; try dsimp only) | (rw [so_bd]; try dsimp only))
      all_goals rfl
  | succ d ih =>
    intro a f1 f2 a0 a1 hd h1 h2
    obtain ⟨f1, rfl⟩ : ∃ k, f1 = k + 1 := ⟨f1 - 1, by omega⟩
    obtain ⟨f2, rfl⟩ : ∃ k, f2 = k + 1 := ⟨f2 - 1, by omega⟩
    obtain ⟨e, b0, b1⟩ := hk a a0 (by omega)
    have w := kind_ok (N := N) ⟨b0, b1⟩
    have ki := kd_i (c a)
    by_cases q : kd (c a) = 1
    · obtain ⟨a', p1, p2, p3, p4, p5⟩ := ih (a + 1) f1 f2 (by omega) (by omega) (by omega) (by omega) (by omega)
      refine ⟨a', by omega, p2, by omega, ?_, ?_⟩
      · rw [← p4, m_X7_step_b118]
        repeat (first | (with_reducible refine gd_ok ?_ ?_; focus (first | omega | assumption | ((repeat' refine And.intro ?_ ?_) <;> first | omega | assumption) | fail)) | (with_reducible refine ip_ok ?_ ?_; focus (first | omega | assumption | ((repeat' refine And.intro ?_ ?_) <;> first | omega | assumption) | fail)) | (with_reducible refine in_ok ?_ ?_; focus (first | omega | assumption | ((repeat' refine And.intro ?_ ?_) <;> first | omega | assumption) | fail)) | (rw [w, so_bd]; try dsimp only) | (rw [so_bd]; try dsimp only))
        all_goals rfl
      · have i := isAt1 (N := N) h (lo := 97) (hi := 122) a0 (by omega) (by omega) (by omega) (by omega) (by omega)
        rw [← p5, m_X13_next_b83]
        repeat (first | (with_reducible refine gd_ok ?_ ?_; focus (first | omega | assumption | ((repeat' refine And.intro ?_ ?_) <;> first | omega | assumption) | fail)) | (with_reducible refine ip_ok ?_ ?_; focus (first | omega | assumption | ((repeat' refine And.intro ?_ ?_) <;> first | omega | assumption) | fail)) | (with_reducible refine in_ok ?_ ?_; focus (first | omega | assumption | ((repeat' refine And.intro ?_ ?_) <;> first | omega | assumption) | fail)) | (rw [i, so_bd]; try dsimp only) | (rw [so_bd]; try dsimp only))
        all_goals rfl
    · refine ⟨a, Int.le_refl _, a1, by omega, ?_, ?_⟩
      · rw [m_X7_step_b118]
        repeat (first | (with_reducible refine gd_ok ?_ ?_; focus (first | omega | assumption | ((repeat' refine And.intro ?_ ?_) <;> first | omega | assumption) | fail)) | (with_reducible refine ip_ok ?_ ?_; focus (first | omega | assumption | ((repeat' refine And.intro ?_ ?_) <;> first | omega | assumption) | fail)) | (with_reducible refine in_ok ?_ ?_; focus (first | omega | assumption | ((repeat' refine And.intro ?_ ?_) <;> first | omega | assumption) | fail)) | (rw [w, so_bd]; try dsimp only) | (rw [so_bd]; try dsimp only))
        all_goals rfl
      · have i := isAt0 (N := N) h (lo := 97) (hi := 122) a0 a1 (by omega) (by omega) (by omega)
        rw [m_X13_next_b83]
        repeat (first | (with_reducible refine gd_ok ?_ ?_; focus (first | omega | assumption | ((repeat' refine And.intro ?_ ?_) <;> first | omega | assumption) | fail)) | (with_reducible refine ip_ok ?_ ?_; focus (first | omega | assumption | ((repeat' refine And.intro ?_ ?_) <;> first | omega | assumption) | fail)) | (with_reducible refine in_ok ?_ ?_; focus (first | omega | assumption | ((repeat' refine And.intro ?_ ?_) <;> first | omega | assumption) | fail)) | (rw [i, so_bd]; try dsimp only) | (rw [so_bd]; try dsimp only))
        all_goals rfl
theorem digits (h : TpR z c r) {st be : Int} : ∀ (d : Nat) (a v w : Int) (f1 f2 : Nat), 0 ≤ a → a ≤ z → (z - a).toNat = d → d < f1 → d < f2 → 0 ≤ v → v ≤ 1000000 → w = min v 10000 → ∃ a' v' w', a ≤ a' ∧ a' ≤ z ∧ (a < z → kd (c a) = 2 → a < a') ∧ 0 ≤ v' ∧ v' ≤ 1000000 ∧ w' = min v' 10000 ∧ m_X7_step_b118 N 0 z c 1600 2 st f1 a v = some (2, st, a', v') ∧ m_X13_next_b123 N z r be 2 f2 a w = some (a', be, 2, w') := by
  obtain ⟨hz, hk⟩ := id h
  intro d
  induction d with
  | zero =>
    intro a v w f1 f2 a0 a1 hd h1 h2 v0 v1 hw
    obtain ⟨f1, rfl⟩ : ∃ k, f1 = k + 1 := ⟨f1 - 1, by omega⟩
    obtain ⟨f2, rfl⟩ : ∃ k, f2 = k + 1 := ⟨f2 - 1, by omega⟩
    refine ⟨a, v, w, Int.le_refl _, a1, by omega, v0, v1, hw, ?_, ?_⟩
    · rw [m_X7_step_b118]
      repeat (first | (with_reducible refine gd_ok ?_ ?_; focus (first | omega | assumption | ((repeat' refine And.intro ?_ ?_) <;> first | omega | assumption) | fail)) | (with_reducible refine ip_ok ?_ ?_; focus (first | omega | assumption | ((repeat' refine And.intro ?_ ?_) <;> first | omega | assumption) | fail)) | (with_reducible refine in_ok ?_ ?_; focus (first | omega | assumption | ((repeat' refine And.intro ?_ ?_) <;> first | omega | assumption) | fail)) | (rw [so_bd]; try dsimp only))
      all_goals rfl
    · have i := isAt0 (N := N) h (lo := 48) (hi := 57) a0 a1 (by omega) (by omega) (by omega)
      rw [m_X13_next_b123]
      repeat (first | (with_reducible refine gd_ok ?_ ?_; focus (first | omega | assumption | ((repeat' refine And.intro ?_ ?_) <;> first | omega | assumption) | fail)) | (with_reducible refine ip_ok ?_ ?_; focus (first | omega | assumption | ((repeat' refine And.intro ?_ ?_) <;> first | omega | assumption) | fail)) | (with_reducible refine in_ok ?_ ?_; focus (first | omega | assumption | ((repeat' refine And.intro ?_ ?_) <;> first | omega | assumption) | fail)) | (rw [i, so_bd]; try dsimp only) | (rw [so_bd]; try dsimp only))
      all_goals rfl
  | succ d ih =>
    intro a v w f1 f2 a0 a1 hd h1 h2 v0 v1 hw
    obtain ⟨f1, rfl⟩ : ∃ k, f1 = k + 1 := ⟨f1 - 1, by omega⟩
    obtain ⟨f2, rfl⟩ : ∃ k, f2 = k + 1 := ⟨f2 - 1, by omega⟩
    obtain ⟨e, b0, b1⟩ := hk a a0 (by omega)
    have ko := kind_ok (N := N) ⟨b0, b1⟩
    have ki := kd_i (c a)
    by_cases q : kd (c a) = 2
    · obtain ⟨a', v', w', p1, p2, p3, p4, p5, p6, p7, p8⟩ := ih (a + 1) (min (((v * 10) + (c a)) - 48) 1000000) (min 10000 (((10 * w) + (r a)) - 48)) f1 f2 (by omega) (by omega) (by omega) (by omega) (by omega) (by omega) (by omega) (by omega)
      refine ⟨a', v', w', by omega, p2, by omega, p4, p5, p6, ?_, ?_⟩
      · rw [← p7, m_X7_step_b118]
        repeat (first | (with_reducible refine gd_ok ?_ ?_; focus (first | omega | assumption | ((repeat' refine And.intro ?_ ?_) <;> first | omega | assumption) | fail)) | (with_reducible refine ip_ok ?_ ?_; focus (first | omega | assumption | ((repeat' refine And.intro ?_ ?_) <;> first | omega | assumption) | fail)) | (with_reducible refine in_ok ?_ ?_; focus (first | omega | assumption | ((repeat' refine And.intro ?_ ?_) <;> first | omega | assumption) | fail)) | (rw [ko, so_bd]; try dsimp only) | (rw [so_bd]; try dsimp only))
        all_goals rfl
      · have i := isAt1 (N := N) h (lo := 48) (hi := 57) a0 (by omega) (by omega) (by omega) (by omega) (by omega)
        rw [← p8, m_X13_next_b123]
        repeat (first | (with_reducible refine gd_ok ?_ ?_; focus (first | omega | assumption | ((repeat' refine And.intro ?_ ?_) <;> first | omega | assumption) | fail)) | (with_reducible refine ip_ok ?_ ?_; focus (first | omega | assumption | ((repeat' refine And.intro ?_ ?_) <;> first | omega | assumption) | fail)) | (with_reducible refine in_ok ?_ ?_; focus (first | omega | assumption | ((repeat' refine And.intro ?_ ?_) <;> first | omega | assumption) | fail)) | (rw [i, so_bd]; try dsimp only) | (rw [so_bd]; try dsimp only))
        all_goals rfl
    · refine ⟨a, v, w, Int.le_refl _, a1, by omega, v0, v1, hw, ?_, ?_⟩
      · rw [m_X7_step_b118]
        repeat (first | (with_reducible refine gd_ok ?_ ?_; focus (first | omega | assumption | ((repeat' refine And.intro ?_ ?_) <;> first | omega | assumption) | fail)) | (with_reducible refine ip_ok ?_ ?_; focus (first | omega | assumption | ((repeat' refine And.intro ?_ ?_) <;> first | omega | assumption) | fail)) | (with_reducible refine in_ok ?_ ?_; focus (first | omega | assumption | ((repeat' refine And.intro ?_ ?_) <;> first | omega | assumption) | fail)) | (rw [ko, so_bd]; try dsimp only) | (rw [so_bd]; try dsimp only))
        all_goals rfl
      · have i := isAt0 (N := N) h (lo := 48) (hi := 57) a0 a1 (by omega) (by omega) (by omega)
        rw [m_X13_next_b123]
        repeat (first | (with_reducible refine gd_ok ?_ ?_; focus (first | omega | assumption | ((repeat' refine And.intro ?_ ?_) <;> first | omega | assumption) | fail)) | (with_reducible refine ip_ok ?_ ?_; focus (first | omega | assumption | ((repeat' refine And.intro ?_ ?_) <;> first | omega | assumption) | fail)) | (with_reducible refine in_ok ?_ ?_; focus (first | omega | assumption | ((repeat' refine And.intro ?_ ?_) <;> first | omega | assumption) | fail)) | (rw [i, so_bd]; try dsimp only) | (rw [so_bd]; try dsimp only))
        all_goals rfl
end
