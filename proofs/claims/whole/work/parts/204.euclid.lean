/-! Euclid's steps: told(), lowest(), and which of two fractions is less -/
theorem eu_half {w x : Int} (h0 : 0 < x) (h1 : x ≤ w) : 2 * (x * (w % x)) < x * w := by
  have e := Int.mul_ediv_add_emod w x
  have r0 := Int.emod_nonneg w (by omega : x ≠ 0)
  have r1 := Int.emod_lt_of_pos w h0
  have q1 : 1 ≤ w / x := Int.le_ediv_of_mul_le h0 (by omega)
  have q2 : x * 1 ≤ x * (w / x) := Int.mul_le_mul_of_nonneg_left q1 (by omega)
  have q3 : 2 * (w % x) < w := by omega
  have q4 : x * (2 * (w % x)) < x * w := Int.mul_lt_mul_of_pos_left q3 h0
  have q5 : x * (2 * (w % x)) = 2 * (x * (w % x)) := by rw [← Int.mul_assoc, Int.mul_comm x 2, Int.mul_assoc]
  omega
theorem eu_pos {w x : Int} (hw : 0 < w) (hx : 0 ≤ x) (h : w * x < 1) : x = 0 := by
  by_cases c : x = 0
  · exact c
  · have := Int.mul_pos hw (by omega : 0 < x)
    omega
theorem eu_next {w x : Int} {k : Nat} (h0 : 0 < x) (h1 : x ≤ w) (h : w * x < 2 ^ (k + 1)) : x * (w % x) < 2 ^ k := by
  have e := eu_half h0 h1
  rw [Int.mul_comm x w] at e
  rw [Int.pow_succ] at h
  omega
theorem gcd_step {a b : Int} (ha : 0 ≤ a) (hb : 0 < b) : Int.gcd a b = Int.gcd b (a % b) := by
  obtain ⟨m, rfl⟩ := Int.eq_ofNat_of_zero_le ha
  obtain ⟨n, rfl⟩ := Int.eq_ofNat_of_zero_le (Int.le_of_lt hb)
  show Nat.gcd m n = Nat.gcd n (m % n)
  rw [Nat.gcd_comm m n, Nat.gcd_rec n m, Nat.gcd_comm]
theorem gcd_zero {a : Int} (ha : 0 ≤ a) : (Int.gcd a 0 : Int) = a := by
  obtain ⟨m, rfl⟩ := Int.eq_ofNat_of_zero_le ha
  show ((Nat.gcd m 0 : Nat) : Int) = _
  rw [Nat.gcd_zero_right]
theorem gcd_le {a b : Int} (hb : 0 < b) : 0 < (Int.gcd a b : Int) ∧ (Int.gcd a b : Int) ≤ b := by
  obtain ⟨n, rfl⟩ := Int.eq_ofNat_of_zero_le (Int.le_of_lt hb)
  have h1 : Nat.gcd a.natAbs n ≤ n := Nat.le_of_dvd (by omega) (Nat.gcd_dvd_right _ _)
  have h2 : 0 < Nat.gcd a.natAbs n := Nat.gcd_pos_of_pos_right _ (by omega)
  show 0 < ((Nat.gcd a.natAbs n : Nat) : Int) ∧ ((Nat.gcd a.natAbs n : Nat) : Int) ≤ _
  omega
section
variable {N : Nat} {x0 x2 x4 x6 : Int}
theorem common_ord : ∀ (k f : Nat) (y4 y6 : Int), 0 ≤ y6 → y6 ≤ y4 → 0 < y4 → y4 ≤ 1000000000000000000 → y4 * y6 < 2 ^ k → k < f → m_X13_common_b6 N x0 x2 f y4 y6 = some (Int.gcd y4 y6 : Int) := by
  intro k
  induction k with
  | zero =>
    intro f y4 y6 h0 h1 h2 h3 h4 hf
    have c : y6 = 0 := eu_pos h2 h0 h4
    subst c
    cases f with
    | zero => omega
    | succ f =>
      rw [m_X13_common_b6]
      refine gd_ok (by first | omega | (constructor <;> omega) | assumption) ?_
      refine ip_ok (rfl) ?_
      refine gd_ok (by first | omega | (constructor <;> omega) | assumption) ?_
      refine ip_ok ((by omega)) ?_
      rw [gcd_zero (by omega)]
  | succ k ih =>
    intro f y4 y6 h0 h1 h2 h3 h4 hf
    cases f with
    | zero => omega
    | succ f =>
      rw [m_X13_common_b6]
      by_cases c : y6 = 0
      · subst c
        refine gd_ok (by first | omega | (constructor <;> omega) | assumption) ?_
        refine ip_ok (rfl) ?_
        refine gd_ok (by first | omega | (constructor <;> omega) | assumption) ?_
        refine ip_ok ((by omega)) ?_
        rw [gcd_zero (by omega)]
      · have r0 := Int.emod_nonneg y4 c
        have r1 := Int.emod_lt_of_pos y4 (by omega : 0 < y6)
        refine gd_ok (by first | omega | (constructor <;> omega) | assumption) ?_
        refine in_ok (c) ?_
        refine gd_ok ⟨⟨by omega, by omega, by omega⟩, by omega, by omega, by omega⟩ ?_
        rw [ih f y6 (y4 % y6) r0 (by omega) (by omega) (by omega) (eu_next (by omega) h1 h4) (by omega), ← gcd_step (by omega) (by omega)]
theorem common_ok (hN : 40000 ≤ N) {a b : Int} (ha : 0 ≤ a ∧ a ≤ 1000000000000000000) (hb : 0 < b ∧ b ≤ 1000000000) : m_X13_common N a b = some (Int.gcd a b : Int) := by
  rw [m_X13_common]
  obtain ⟨f, rfl⟩ : ∃ f, N = f + 1 := ⟨N - 1, by omega⟩
  have r0 := Int.emod_nonneg a (by omega : b ≠ 0)
  have r1 := Int.emod_lt_of_pos a hb.1
  have hm := mul_bd (a := b) (b := a % b) (A := 1000000000) (B := 1000000000) (by omega) (by omega)
  rw [m_X13_common_b6]
  refine gd_ok (by first | omega | (constructor <;> omega) | assumption) ?_
  refine in_ok (by first | omega | (constructor <;> omega) | assumption) ?_
  refine gd_ok ⟨⟨by omega, by omega, by omega⟩, by omega, by omega, by omega⟩ ?_
  rw [common_ord 60 f b (a % b) r0 (by omega) hb.1 (by omega) (by omega) (by omega), ← gcd_step (by omega) (by omega)]
theorem told_ok (hN : 40000 ≤ N) {a b w : Int} (ha : 0 ≤ a ∧ a ≤ 1000000000000000000) (hb : 0 < b ∧ b ≤ 1000000000) (hw : rI w) : m_X13_told N a b w = some (if w = 0 then a / (Int.gcd a b : Int) else b / (Int.gcd a b : Int)) := by
  have hg := gcd_le (a := a) hb.1
  rw [m_X13_told]
  refine bd_ok (common_ok hN ha hb) ?_
  refine gd_ok (by first | omega | (constructor <;> omega) | assumption) ?_
  by_cases c1 : w = 0
  · refine ip_ok (c1) ?_
    refine gd_ok ⟨⟨by omega, by omega, by omega⟩, by omega, by omega, by omega⟩ ?_
    rw [if_pos c1]
  · refine in_ok (c1) ?_
    refine gd_ok ⟨⟨by omega, by omega, by omega⟩, by omega, by omega, by omega⟩ ?_
    rw [if_neg c1]
theorem lowest_ord : ∀ (k f : Nat) (y5 y7 y9 : Int), 0 ≤ y7 → y7 ≤ y5 → 0 < y5 → y5 ≤ 1000000000000000000 → y5 * y7 < 2 ^ k → k < f → 0 ≤ y9 → y9 + k < 100 → m_X5_lowest_b9 N x0 x2 x4 f y5 y7 y9 = m_X5_lowest_b44 N x0 x2 x4 (Int.gcd y5 y7 : Int) := by
  intro k
  induction k with
  | zero =>
    intro f y4 y6 y9 h0 h1 h2 h3 h4 hf h9 h8
    have c : y6 = 0 := eu_pos h2 h0 h4
    subst c
    cases f with
    | zero => omega
    | succ f =>
      rw [m_X5_lowest_b9]
      refine gd_ok (by first | omega | (constructor <;> omega) | assumption) ?_
      refine in_ok (by first | omega | (constructor <;> omega) | assumption) ?_
      refine gd_ok (by first | omega | (constructor <;> omega) | assumption) ?_
      refine ip_ok (rfl) ?_
      rw [gcd_zero (by omega)]
  | succ k ih =>
    intro f y4 y6 y9 h0 h1 h2 h3 h4 hf h9 h8
    cases f with
    | zero => omega
    | succ f =>
      rw [m_X5_lowest_b9]
      by_cases c : y6 = 0
      · subst c
        refine gd_ok (by first | omega | (constructor <;> omega) | assumption) ?_
        refine in_ok (by first | omega | (constructor <;> omega) | assumption) ?_
        refine gd_ok (by first | omega | (constructor <;> omega) | assumption) ?_
        refine ip_ok (rfl) ?_
        rw [gcd_zero (by omega)]
      · have r0 := Int.emod_nonneg y4 c
        have r1 := Int.emod_lt_of_pos y4 (by omega : 0 < y6)
        refine gd_ok (by first | omega | (constructor <;> omega) | assumption) ?_
        refine in_ok (by first | omega | (constructor <;> omega) | assumption) ?_
        refine gd_ok (by first | omega | (constructor <;> omega) | assumption) ?_
        refine in_ok (c) ?_
        refine gd_ok ⟨⟨by omega, by omega, by omega⟩, by omega, by omega, by omega⟩ ?_
        rw [ih f y6 (y4 % y6) (y9 + 1) r0 (by omega) (by omega) (by omega) (eu_next (by omega) h1 h4) (by omega) (by omega) (by omega), ← gcd_step (by omega) (by omega)]
theorem lowest_ok (hN : 40000 ≤ N) {a b w : Int} (ha : 0 ≤ a ∧ a ≤ 1000000000000000000) (hb : 0 < b ∧ b ≤ 1000000000) (hw : rI w) : m_X5_lowest N a b w = some (if w = 0 then a / (Int.gcd a b : Int) else b / (Int.gcd a b : Int)) := by
  have hg := gcd_le (a := a) hb.1
  rw [m_X5_lowest]
  obtain ⟨f, rfl⟩ : ∃ f, N = f + 1 := ⟨N - 1, by omega⟩
  have r0 := Int.emod_nonneg a (by omega : b ≠ 0)
  have r1 := Int.emod_lt_of_pos a hb.1
  have hm := mul_bd (a := b) (b := a % b) (A := 1000000000) (B := 1000000000) (by omega) (by omega)
  rw [m_X5_lowest_b9]
  refine gd_ok (by first | omega | (constructor <;> omega) | assumption) ?_
  refine in_ok (by first | omega | (constructor <;> omega) | assumption) ?_
  refine gd_ok (by first | omega | (constructor <;> omega) | assumption) ?_
  refine in_ok (by first | omega | (constructor <;> omega) | assumption) ?_
  refine gd_ok ⟨⟨by omega, by omega, by omega⟩, by omega, by omega, by omega⟩ ?_
  rw [lowest_ord 60 f b (a % b) _ r0 (by omega) hb.1 (by omega) (by omega) (by omega) (by omega) (by omega), ← gcd_step (by omega) (by omega), m_X5_lowest_b44]
  refine gd_ok (by first | omega | (constructor <;> omega) | assumption) ?_
  by_cases c1 : w = 0
  · refine ip_ok (c1) ?_
    rw [m_X5_lowest_b54, if_pos c1]
    refine gd_ok (by first | omega | (constructor <;> omega) | assumption) ?_
    refine in_ok (by first | omega | (constructor <;> omega) | assumption) ?_
    refine gd_ok ⟨⟨by omega, by omega, by omega⟩, by omega, by omega, by omega⟩ rfl
  · refine in_ok (c1) ?_
    rw [m_X5_lowest_b54, if_neg c1]
    refine gd_ok (by first | omega | (constructor <;> omega) | assumption) ?_
    refine in_ok (by first | omega | (constructor <;> omega) | assumption) ?_
    refine gd_ok ⟨⟨by omega, by omega, by omega⟩, by omega, by omega, by omega⟩ rfl
end
/-! fractions -/
theorem div_lt {w x y z : Int} (hx : 0 < x) (hz : 0 < z) (h : w / x < y / z) : w * z < y * x := by
  have a1 : w < (w / x + 1) * x := Int.lt_ediv_add_one_mul_self w hx
  have a2 : y / z * z ≤ y := Int.ediv_mul_le y (by omega)
  have b1 : w * z < (w / x + 1) * x * z := Int.mul_lt_mul_of_pos_right a1 hz
  have b2 : y / z * z * x ≤ y * x := Int.mul_le_mul_of_nonneg_right a2 (by omega)
  have b3 : (w / x + 1) * (x * z) ≤ y / z * (x * z) := Int.mul_le_mul_of_nonneg_right (by omega) (Int.le_of_lt (Int.mul_pos hx hz))
  have e1 : (w / x + 1) * x * z = (w / x + 1) * (x * z) := Int.mul_assoc _ _ _
  have e2 : y / z * z * x = y / z * (x * z) := by rw [Int.mul_assoc, Int.mul_comm z x]
  omega
def LsS (v t w x y z : Int) : Prop := (v = 0 ∨ v = 1) ∧ (v = 1 ↔ (t = 0 ∧ w * z < y * x) ∨ (t = 1 ∧ y * x < w * z))
section
variable {N : Nat} {x0 x2 x4 x6 : Int}
theorem isLess_end {w x y z t : Int} (hw : 0 < w) (hy : 0 < y) (hx : 0 ≤ x ∧ x ≤ 1000000000000000000) (hz : 0 ≤ z ∧ z ≤ 1000000000000000000) (ht : t = 0 ∨ t = 1) (h : x = 0 ∨ z = 0) : ∃ v, m_X5_isLess_b152 N x0 x2 x4 x6 x z t = some v ∧ LsS v t w x y z := by
  unfold LsS
  by_cases c1 : z = 0
  · subst c1
    by_cases c2 : x = 0
    · subst c2
      refine ⟨0, ?_, Or.inl rfl, ?_⟩
      · rw [m_X5_isLess_b152]
        refine gd_ok (by first | omega | (constructor <;> omega) | assumption) ?_
        refine ip_ok (rfl) ?_
        refine gd_ok (by first | omega | (constructor <;> omega) | assumption) ?_
        refine ip_ok (rfl) ?_
        rw [m_X5_isLess_b170, m_X5_isLess_b171]
        refine gd_ok (by first | omega | (constructor <;> omega) | assumption) ?_
        refine ip_ok (rfl) ?_
        refine gd_ok (by first | omega | (constructor <;> omega) | assumption) ?_
        refine ip_ok (rfl) ?_
        rw [m_X5_isLess_b191, m_X5_isLess_b192]
        refine gd_ok (by first | omega | (constructor <;> omega) | assumption) ?_
        rcases ht with rfl | rfl
        · refine ip_ok (rfl) ?_
          refine gd_ok (by first | omega | (constructor <;> omega) | assumption) ?_
          rfl
        · refine in_ok ((by decide)) ?_
          refine gd_ok (by first | omega | (constructor <;> omega) | assumption) ?_
          rfl
      · simp only [Int.mul_zero]; omega
    · have hp := Int.mul_pos hy (by omega : 0 < x)
      rcases ht with rfl | rfl
      · refine ⟨1, ?_, Or.inr rfl, ?_⟩
        · rw [m_X5_isLess_b152]
          refine gd_ok (by first | omega | (constructor <;> omega) | assumption) ?_
          refine ip_ok (rfl) ?_
          refine gd_ok (by first | omega | (constructor <;> omega) | assumption) ?_
          refine in_ok (c2) ?_
          rw [m_X5_isLess_b171]
          refine gd_ok (by first | omega | (constructor <;> omega) | assumption) ?_
          refine in_ok (c2) ?_
          rw [m_X5_isLess_b191, m_X5_isLess_b192]
          refine gd_ok (by first | omega | (constructor <;> omega) | assumption) ?_
          refine ip_ok (rfl) ?_
          refine gd_ok (by first | omega | (constructor <;> omega) | assumption) ?_
          rfl
        · rw [Int.mul_zero]; exact ⟨fun _ => Or.inl ⟨rfl, hp⟩, fun _ => rfl⟩
      · refine ⟨0, ?_, Or.inl rfl, ?_⟩
        · rw [m_X5_isLess_b152]
          refine gd_ok (by first | omega | (constructor <;> omega) | assumption) ?_
          refine ip_ok (rfl) ?_
          refine gd_ok (by first | omega | (constructor <;> omega) | assumption) ?_
          refine in_ok (c2) ?_
          rw [m_X5_isLess_b171]
          refine gd_ok (by first | omega | (constructor <;> omega) | assumption) ?_
          refine in_ok (c2) ?_
          rw [m_X5_isLess_b191, m_X5_isLess_b192]
          refine gd_ok (by first | omega | (constructor <;> omega) | assumption) ?_
          refine in_ok ((by decide)) ?_
          refine gd_ok (by first | omega | (constructor <;> omega) | assumption) ?_
          rfl
        · simp only [Int.mul_zero]; omega
  · have c2 : x = 0 := by omega
    subst c2
    have hp := Int.mul_pos hw (by omega : 0 < z)
    rcases ht with rfl | rfl
    · refine ⟨0, ?_, Or.inl rfl, ?_⟩
      · rw [m_X5_isLess_b152]
        refine gd_ok (by first | omega | (constructor <;> omega) | assumption) ?_
        refine in_ok (c1) ?_
        rw [m_X5_isLess_b170, m_X5_isLess_b171]
        refine gd_ok (by first | omega | (constructor <;> omega) | assumption) ?_
        refine ip_ok (rfl) ?_
        refine gd_ok (by first | omega | (constructor <;> omega) | assumption) ?_
        refine in_ok (c1) ?_
        rw [m_X5_isLess_b192]
        refine gd_ok (by first | omega | (constructor <;> omega) | assumption) ?_
        refine ip_ok (rfl) ?_
        refine gd_ok (by first | omega | (constructor <;> omega) | assumption) ?_
        rfl
      · simp only [Int.mul_zero]; omega
    · refine ⟨1, ?_, Or.inr rfl, ?_⟩
      · rw [m_X5_isLess_b152]
        refine gd_ok (by first | omega | (constructor <;> omega) | assumption) ?_
        refine in_ok (c1) ?_
        rw [m_X5_isLess_b170, m_X5_isLess_b171]
        refine gd_ok (by first | omega | (constructor <;> omega) | assumption) ?_
        refine ip_ok (rfl) ?_
        refine gd_ok (by first | omega | (constructor <;> omega) | assumption) ?_
        refine in_ok (c1) ?_
        rw [m_X5_isLess_b192]
        refine gd_ok (by first | omega | (constructor <;> omega) | assumption) ?_
        refine in_ok ((by decide)) ?_
        refine gd_ok (by first | omega | (constructor <;> omega) | assumption) ?_
        rfl
      · rw [Int.mul_zero]; exact ⟨fun _ => Or.inr ⟨rfl, hp⟩, fun _ => rfl⟩
theorem isLess_step {f : Nat} {w x y z t i : Int} (hw : 0 ≤ w ∧ w ≤ 1000000000000000000) (hy : 0 ≤ y ∧ y ≤ 1000000000000000000) (hx : 0 < x ∧ x ≤ 1000000000000000000) (hz : 0 < z ∧ z ≤ 1000000000000000000) (ht : t = 0 ∨ t = 1) (hi : 0 ≤ i ∧ i < 100)
    (next : ∀ t', (t' = 0 ∨ t' = 1) → ∃ v, m_X5_isLess_b20 N x0 x2 x4 x6 f x (w % x) z (y % z) t' (i + 1) = some v ∧ LsS v t' x (w % x) z (y % z)) : ∃ v, m_X5_isLess_b20 N x0 x2 x4 x6 (f + 1) w x y z t i = some v ∧ LsS v t w x y z := by
  have q1 : 0 ≤ w / x := Int.ediv_nonneg hw.1 (by omega)
  have q2 : w / x ≤ w := Int.ediv_le_self x hw.1
  have q3 : 0 ≤ y / z := Int.ediv_nonneg hy.1 (by omega)
  have q4 : y / z ≤ y := Int.ediv_le_self z hy.1
  rw [m_X5_isLess_b20]
  by_cases c : w / x = y / z
  · have e1 : w - w / x * x = w % x := by have := Int.mul_ediv_add_emod w x; rw [Int.mul_comm] at this; omega
    have e2 : y - y / z * z = y % z := by have := Int.mul_ediv_add_emod y z; rw [Int.mul_comm] at this; omega
    have d1 := Int.mul_ediv_add_emod w x
    have d2 := Int.mul_ediv_add_emod y z
    have k1 : w * z = x * z * (y / z) + z * (w % x) := by
      have : w * z = (x * (w / x) + w % x) * z := by rw [d1]
      rw [this, c, Int.add_mul, Int.mul_comm (w % x) z, Int.mul_assoc, Int.mul_comm (y / z) z, ← Int.mul_assoc]
    have k2 : y * x = x * z * (y / z) + x * (y % z) := by
      have : y * x = (z * (y / z) + y % z) * x := by rw [d2]
      rw [this, Int.add_mul, Int.mul_comm (y % z) x, Int.mul_comm (z * (y / z)) x, ← Int.mul_assoc]
    have e3 : ∀ v t', LsS v t' x (w % x) z (y % z) → (t = 0 ∧ t' = 1 ∨ t = 1 ∧ t' = 0) → LsS v t w x y z := by
      intro v t' h ht'
      unfold LsS at h ⊢
      refine ⟨h.1, h.2.trans ?_⟩
      have k3 : x * (y % z) = x * (y % z) := rfl
      omega
    rw [e1, e2]
    rcases ht with rfl | rfl
    · obtain ⟨v, n1, n2⟩ := next 1 (Or.inr rfl)
      refine ⟨v, ?_, e3 v 1 n2 (Or.inl ⟨rfl, rfl⟩)⟩
      refine gd_ok (by first | omega | (constructor <;> omega) | assumption) ?_
      refine in_ok (by first | omega | (constructor <;> omega) | assumption) ?_
      refine gd_ok (by first | omega | (constructor <;> omega) | assumption) ?_
      refine in_ok (by first | omega | (constructor <;> omega) | assumption) ?_
      refine gd_ok (by first | omega | (constructor <;> omega) | assumption) ?_
      refine in_ok (by first | omega | (constructor <;> omega) | assumption) ?_
      refine gd_ok ⟨⟨by omega, by omega, by omega⟩, by omega, by omega, by omega⟩ (gd_ok ⟨⟨by omega, by omega, by omega⟩, by omega, by omega, by omega⟩ ?_)
      refine gd_ok (by first | omega | (constructor <;> omega) | assumption) ?_
      refine gd_ok (by first | omega | (constructor <;> omega) | assumption) ?_
      refine ip_ok (c) ?_
      refine gd_ok (by first | omega | (constructor <;> omega) | assumption) ?_
      refine ip_ok (rfl) ?_
      rw [m_X5_isLess_b144]
      exact n1
    · obtain ⟨v, n1, n2⟩ := next 0 (Or.inl rfl)
      refine ⟨v, ?_, e3 v 0 n2 (Or.inr ⟨rfl, rfl⟩)⟩
      refine gd_ok (by first | omega | (constructor <;> omega) | assumption) ?_
      refine in_ok (by first | omega | (constructor <;> omega) | assumption) ?_
      refine gd_ok (by first | omega | (constructor <;> omega) | assumption) ?_
      refine in_ok (by first | omega | (constructor <;> omega) | assumption) ?_
      refine gd_ok (by first | omega | (constructor <;> omega) | assumption) ?_
      refine in_ok (by first | omega | (constructor <;> omega) | assumption) ?_
      refine gd_ok ⟨⟨by omega, by omega, by omega⟩, by omega, by omega, by omega⟩ (gd_ok ⟨⟨by omega, by omega, by omega⟩, by omega, by omega, by omega⟩ ?_)
      refine gd_ok (by first | omega | (constructor <;> omega) | assumption) ?_
      refine gd_ok (by first | omega | (constructor <;> omega) | assumption) ?_
      refine ip_ok (c) ?_
      refine gd_ok (by first | omega | (constructor <;> omega) | assumption) ?_
      refine in_ok ((by decide)) ?_
      rw [m_X5_isLess_b144]
      exact n1
  · have hA : w / x < y / z → w * z < y * x := div_lt hx.1 hz.1
    have hB : y / z < w / x → y * x < w * z := div_lt hz.1 hx.1
    unfold LsS
    rcases ht with rfl | rfl
    · by_cases d : y / z ≤ w / x
      · have := hB (by omega)
        refine ⟨0, ?_, Or.inl rfl, by omega⟩
        refine gd_ok (by first | omega | (constructor <;> omega) | assumption) ?_
        refine in_ok (by first | omega | (constructor <;> omega) | assumption) ?_
        refine gd_ok (by first | omega | (constructor <;> omega) | assumption) ?_
        refine in_ok (by first | omega | (constructor <;> omega) | assumption) ?_
        refine gd_ok (by first | omega | (constructor <;> omega) | assumption) ?_
        refine in_ok (by first | omega | (constructor <;> omega) | assumption) ?_
        refine gd_ok ⟨⟨by omega, by omega, by omega⟩, by omega, by omega, by omega⟩ (gd_ok ⟨⟨by omega, by omega, by omega⟩, by omega, by omega, by omega⟩ ?_)
        refine gd_ok (by first | omega | (constructor <;> omega) | assumption) ?_
        refine gd_ok (by first | omega | (constructor <;> omega) | assumption) ?_
        refine in_ok (c) ?_
        refine gd_ok (by first | omega | (constructor <;> omega) | assumption) ?_
        refine ip_ok (rfl) ?_
        refine ip_ok (d) ?_
        rfl
      · have := hA (by omega)
        refine ⟨1, ?_, Or.inr rfl, by omega⟩
        refine gd_ok (by first | omega | (constructor <;> omega) | assumption) ?_
        refine in_ok (by first | omega | (constructor <;> omega) | assumption) ?_
        refine gd_ok (by first | omega | (constructor <;> omega) | assumption) ?_
        refine in_ok (by first | omega | (constructor <;> omega) | assumption) ?_
        refine gd_ok (by first | omega | (constructor <;> omega) | assumption) ?_
        refine in_ok (by first | omega | (constructor <;> omega) | assumption) ?_
        refine gd_ok ⟨⟨by omega, by omega, by omega⟩, by omega, by omega, by omega⟩ (gd_ok ⟨⟨by omega, by omega, by omega⟩, by omega, by omega, by omega⟩ ?_)
        refine gd_ok (by first | omega | (constructor <;> omega) | assumption) ?_
        refine gd_ok (by first | omega | (constructor <;> omega) | assumption) ?_
        refine in_ok (c) ?_
        refine gd_ok (by first | omega | (constructor <;> omega) | assumption) ?_
        refine ip_ok (rfl) ?_
        refine in_ok (d) ?_
        rfl
    · by_cases d : w / x ≤ y / z
      · have := hA (by omega)
        refine ⟨0, ?_, Or.inl rfl, by omega⟩
        refine gd_ok (by first | omega | (constructor <;> omega) | assumption) ?_
        refine in_ok (by first | omega | (constructor <;> omega) | assumption) ?_
        refine gd_ok (by first | omega | (constructor <;> omega) | assumption) ?_
        refine in_ok (by first | omega | (constructor <;> omega) | assumption) ?_
        refine gd_ok (by first | omega | (constructor <;> omega) | assumption) ?_
        refine in_ok (by first | omega | (constructor <;> omega) | assumption) ?_
        refine gd_ok ⟨⟨by omega, by omega, by omega⟩, by omega, by omega, by omega⟩ (gd_ok ⟨⟨by omega, by omega, by omega⟩, by omega, by omega, by omega⟩ ?_)
        refine gd_ok (by first | omega | (constructor <;> omega) | assumption) ?_
        refine gd_ok (by first | omega | (constructor <;> omega) | assumption) ?_
        refine in_ok (c) ?_
        refine gd_ok (by first | omega | (constructor <;> omega) | assumption) ?_
        refine in_ok ((by decide)) ?_
        refine ip_ok (d) ?_
        rfl
      · have := hB (by omega)
        refine ⟨1, ?_, Or.inr rfl, by omega⟩
        refine gd_ok (by first | omega | (constructor <;> omega) | assumption) ?_
        refine in_ok (by first | omega | (constructor <;> omega) | assumption) ?_
        refine gd_ok (by first | omega | (constructor <;> omega) | assumption) ?_
        refine in_ok (by first | omega | (constructor <;> omega) | assumption) ?_
        refine gd_ok (by first | omega | (constructor <;> omega) | assumption) ?_
        refine in_ok (by first | omega | (constructor <;> omega) | assumption) ?_
        refine gd_ok ⟨⟨by omega, by omega, by omega⟩, by omega, by omega, by omega⟩ (gd_ok ⟨⟨by omega, by omega, by omega⟩, by omega, by omega, by omega⟩ ?_)
        refine gd_ok (by first | omega | (constructor <;> omega) | assumption) ?_
        refine gd_ok (by first | omega | (constructor <;> omega) | assumption) ?_
        refine in_ok (c) ?_
        refine gd_ok (by first | omega | (constructor <;> omega) | assumption) ?_
        refine in_ok ((by decide)) ?_
        refine in_ok (d) ?_
        rfl
theorem isLess_fin {f : Nat} {w x y z t i : Int} (hw : 0 < w) (hy : 0 < y) (hx : 0 ≤ x ∧ x ≤ 1000000000000000000) (hz : 0 ≤ z ∧ z ≤ 1000000000000000000) (ht : t = 0 ∨ t = 1) (hi : 0 ≤ i ∧ i < 100) (h : x = 0 ∨ z = 0) : ∃ v, m_X5_isLess_b20 N x0 x2 x4 x6 (f + 1) w x y z t i = some v ∧ LsS v t w x y z := by
  obtain ⟨v, e1, e2⟩ := isLess_end (N := N) (x0 := x0) (x2 := x2) (x4 := x4) (x6 := x6) hw hy hx hz ht h
  refine ⟨v, ?_, e2⟩
  rw [m_X5_isLess_b20]
  by_cases c : x = 0
  · refine gd_ok (by first | omega | (constructor <;> omega) | assumption) ?_
    refine in_ok (by first | omega | (constructor <;> omega) | assumption) ?_
    refine gd_ok (by first | omega | (constructor <;> omega) | assumption) ?_
    refine ip_ok (c) ?_
    exact e1
  · have d : z = 0 := by omega
    refine gd_ok (by first | omega | (constructor <;> omega) | assumption) ?_
    refine in_ok (by first | omega | (constructor <;> omega) | assumption) ?_
    refine gd_ok (by first | omega | (constructor <;> omega) | assumption) ?_
    refine in_ok (c) ?_
    refine gd_ok (by first | omega | (constructor <;> omega) | assumption) ?_
    refine ip_ok (d) ?_
    exact e1
theorem isLess_ord : ∀ (k f : Nat) (w x y z t i : Int), 0 < w → w ≤ 1000000000000000000 → 0 < y → y ≤ 1000000000000000000 → 0 ≤ x → x ≤ w → 0 ≤ z → z ≤ 1000000000000000000 → (t = 0 ∨ t = 1) → w * x < 2 ^ k → k < f → 0 ≤ i → i + k < 100 → ∃ v, m_X5_isLess_b20 N x0 x2 x4 x6 f w x y z t i = some v ∧ LsS v t w x y z := by
  intro k
  induction k with
  | zero =>
    intro f w x y z t i h1 h2 h3 h4 h5 h6 h7 h8 h9 h10 h11 h12 h13
    cases f with
    | zero => omega
    | succ f => exact isLess_fin h1 h3 ⟨h5, by omega⟩ ⟨h7, h8⟩ h9 ⟨h12, by omega⟩ (Or.inl (eu_pos h1 h5 h10))
  | succ k ih =>
    intro f w x y z t i h1 h2 h3 h4 h5 h6 h7 h8 h9 h10 h11 h12 h13
    cases f with
    | zero => omega
    | succ f =>
      by_cases c : x = 0 ∨ z = 0
      · exact isLess_fin h1 h3 ⟨h5, by omega⟩ ⟨h7, h8⟩ h9 ⟨h12, by omega⟩ c
      · have r0 := Int.emod_nonneg w (by omega : x ≠ 0)
        have r1 := Int.emod_lt_of_pos w (by omega : 0 < x)
        have s0 := Int.emod_nonneg y (by omega : z ≠ 0)
        have s1 := Int.emod_lt_of_pos y (by omega : 0 < z)
        exact isLess_step ⟨by omega, h2⟩ ⟨by omega, h4⟩ ⟨by omega, by omega⟩ ⟨by omega, h8⟩ h9 ⟨h12, by omega⟩ (fun t' ht' => ih f x (w % x) z (y % z) t' (i + 1) (by omega) (by omega) (by omega) (by omega) r0 (by omega) s0 (by omega) ht' (eu_next (by omega) h6 h10) (by omega) (by omega) (by omega))
theorem isLess_ok (hN : 40000 ≤ N) {a b c d : Int} (ha : 0 ≤ a ∧ a ≤ 1000000000000000000) (hc : 0 ≤ c ∧ c ≤ 1000000000000000000) (hb : 0 < b ∧ b ≤ 10000000000000) (hd : 0 < d ∧ d ≤ 10000000000000) : ∃ v, m_X5_isLess N a b c d = some v ∧ (v = 0 ∨ v = 1) ∧ (v = 1 ↔ a * d < c * b) := by
  have r0 := Int.emod_nonneg a (by omega : b ≠ 0)
  have r1 := Int.emod_lt_of_pos a (by omega : 0 < b)
  have s0 := Int.emod_nonneg c (by omega : d ≠ 0)
  have s1 := Int.emod_lt_of_pos c (by omega : 0 < d)
  have hm := mul_bd (a := b) (b := a % b) (A := 10000000000000) (B := 10000000000000) (by omega) (by omega)
  have hk : (10000000000000 * 10000000000000 : Int) < 2 ^ 87 := by decide
  rw [m_X5_isLess]
  obtain ⟨f, rfl⟩ : ∃ f, N = f + 1 := ⟨N - 1, by omega⟩
  obtain ⟨v, e1, e2, e3⟩ := isLess_step (N := f + 1) (x0 := a) (x2 := b) (x4 := c) (x6 := d) (f := f) (w := a) (x := b) (y := c) (z := d) (t := 0) (i := 0) ha hc ⟨hb.1, by omega⟩ ⟨hd.1, by omega⟩ (Or.inl rfl) ⟨Int.le_refl 0, by omega⟩ (fun t' ht' => isLess_ord 87 f b (a % b) d (c % d) t' (0 + 1) hb.1 (by omega) hd.1 (by omega) r0 (by omega) s0 (by omega) ht' (by omega) (by omega) (by omega) (by omega))
  exact ⟨v, e1, e2, by omega⟩
/-! the reference's: by halves -/
theorem mh_ok {x y : Int} (hx : 0 ≤ x ∧ x ≤ 1000000000000000000) (hy : 0 ≤ y ∧ y ≤ 1000000000000000000) : m_J9_multiplyHigh_f86c9 N x y = some (x * y / 18446744073709551616) := by
  have hA := mul_bd (a := x / 4294967296) (b := y % 4294967296) (A := 2147483647) (B := 4294967295) (by omega) (by omega)
  have hB := mul_bd (a := x % 4294967296) (b := y / 4294967296) (A := 4294967295) (B := 2147483647) (by omega) (by omega)
  have hC := mul_bd (a := x % 4294967296) (b := y % 4294967296) (A := 4294967295) (B := 4294967295) (by omega) (by omega)
  have e : x * y = x / 4294967296 * (y / 4294967296) * 18446744073709551616 + (x / 4294967296 * (y % 4294967296)) * 4294967296 + (x % 4294967296 * (y / 4294967296)) * 4294967296 + x % 4294967296 * (y % 4294967296) := by
    have e1 := Int.mul_ediv_add_emod x 4294967296
    have e2 := Int.mul_ediv_add_emod y 4294967296
    have e3 : x * y = (4294967296 * (x / 4294967296) + x % 4294967296) * (4294967296 * (y / 4294967296) + y % 4294967296) := by rw [e1, e2]
    rw [e3, Int.add_mul, Int.mul_add, Int.mul_add]
    have f1 : 4294967296 * (x / 4294967296) * (4294967296 * (y / 4294967296)) = x / 4294967296 * (y / 4294967296) * 18446744073709551616 := by
      rw [Int.mul_assoc, ← Int.mul_assoc (x / 4294967296) 4294967296, Int.mul_comm (x / 4294967296) 4294967296, Int.mul_assoc 4294967296 (x / 4294967296), ← Int.mul_assoc, Int.mul_comm]
      rfl
    have f2 : 4294967296 * (x / 4294967296) * (y % 4294967296) = (x / 4294967296 * (y % 4294967296)) * 4294967296 := by
      rw [Int.mul_assoc, Int.mul_comm]
    have f3 : x % 4294967296 * (4294967296 * (y / 4294967296)) = (x % 4294967296 * (y / 4294967296)) * 4294967296 := by
      rw [← Int.mul_assoc, Int.mul_comm (x % 4294967296) 4294967296, Int.mul_assoc, Int.mul_comm]
    rw [f1, f2, f3]
    omega
  rw [m_J9_multiplyHigh_f86c9]
  refine gd_ok (by first | omega | (constructor <;> omega) | assumption) ?_
  refine gd_ok (by first | omega | (constructor <;> omega) | assumption) ?_
  refine gd_ok (by first | omega | (constructor <;> omega) | assumption) ?_
  refine gd_ok (by first | omega | (constructor <;> omega) | assumption) ?_
  congr 1
  rw [e]
  omega
theorem cu_ok {p q : Int} : ∃ v, m_J13_compareUnsigned_74951 N p q = some v ∧ (-1 ≤ v ∧ v ≤ 1) ∧ (v < 0 ↔ p % 18446744073709551616 < q % 18446744073709551616) := by
  have e1 : wL (p + -9223372036854775808) = p % 18446744073709551616 - 9223372036854775808 := by unfold wL; omega
  have e2 : wL (q + -9223372036854775808) = q % 18446744073709551616 - 9223372036854775808 := by unfold wL; omega
  rw [m_J13_compareUnsigned_74951, e1, e2]
  by_cases c1 : q % 18446744073709551616 - 9223372036854775808 ≤ p % 18446744073709551616 - 9223372036854775808
  · by_cases c2 : p % 18446744073709551616 - 9223372036854775808 = q % 18446744073709551616 - 9223372036854775808
    · refine ⟨0, ?_, by omega, by omega⟩
      refine bd_ok (a := 0) ?_ rfl
      rw [m_J13_compare_74951]
      refine gd_ok (by first | omega | (constructor <;> omega) | assumption) ?_
      refine gd_ok (by first | omega | (constructor <;> omega) | assumption) ?_
      refine ip_ok (c1) ?_
      refine ip_ok (c2) ?_
      rfl
    · refine ⟨1, ?_, by omega, by omega⟩
      refine bd_ok (a := 1) ?_ rfl
      rw [m_J13_compare_74951]
      refine gd_ok (by first | omega | (constructor <;> omega) | assumption) ?_
      refine gd_ok (by first | omega | (constructor <;> omega) | assumption) ?_
      refine ip_ok (c1) ?_
      refine in_ok (c2) ?_
      rfl
  · refine ⟨-1, ?_, by omega, by omega⟩
    refine bd_ok (a := -1) ?_ rfl
    rw [m_J13_compare_74951]
    refine gd_ok (by first | omega | (constructor <;> omega) | assumption) ?_
    refine gd_ok (by first | omega | (constructor <;> omega) | assumption) ?_
    refine in_ok (c1) ?_
    rfl
theorem rLess_ok {a b c d : Int} (ha : 0 ≤ a ∧ a ≤ 1000000000000000000) (hc : 0 ≤ c ∧ c ≤ 1000000000000000000) (hb : 0 ≤ b ∧ b ≤ 10000000000000) (hd : 0 ≤ d ∧ d ≤ 10000000000000) : ∃ v, m_X13_isLess N a b c d = some v ∧ (v = 0 ∨ v = 1) ∧ (v = 1 ↔ a * b < c * d) := by
  have m1 := mul_bd (a := a) (b := b) (A := 1000000000000000000) (B := 10000000000000) ha hb
  have m2 := mul_bd (a := c) (b := d) (A := 1000000000000000000) (B := 10000000000000) hc hd
  obtain ⟨v, e1, e2, e3⟩ := cu_ok (N := N) (p := a * b) (q := c * d)
  by_cases c1 : a * b / 18446744073709551616 = c * d / 18446744073709551616
  · by_cases c2 : 0 ≤ v
    · refine ⟨0, ?_, Or.inl rfl, by omega⟩
      rw [m_X13_isLess]
      refine bd_ok (mh_ok ha ⟨hb.1, by omega⟩) ?_
      refine bd_ok (mh_ok hc ⟨hd.1, by omega⟩) ?_
      refine gd_ok (by first | omega | (constructor <;> omega) | assumption) ?_
      refine gd_ok (by first | omega | (constructor <;> omega) | assumption) ?_
      refine ip_ok (c1) ?_
      refine bd_ok (e1) ?_
      refine gd_ok (by first | omega | (constructor <;> omega) | assumption) ?_
      refine ip_ok (c2) ?_
      rfl
    · refine ⟨1, ?_, Or.inr rfl, by omega⟩
      rw [m_X13_isLess]
      refine bd_ok (mh_ok ha ⟨hb.1, by omega⟩) ?_
      refine bd_ok (mh_ok hc ⟨hd.1, by omega⟩) ?_
      refine gd_ok (by first | omega | (constructor <;> omega) | assumption) ?_
      refine gd_ok (by first | omega | (constructor <;> omega) | assumption) ?_
      refine ip_ok (c1) ?_
      refine bd_ok (e1) ?_
      refine gd_ok (by first | omega | (constructor <;> omega) | assumption) ?_
      refine in_ok (c2) ?_
      rfl
  · by_cases c2 : c * d / 18446744073709551616 ≤ a * b / 18446744073709551616
    · refine ⟨0, ?_, Or.inl rfl, by omega⟩
      rw [m_X13_isLess]
      refine bd_ok (mh_ok ha ⟨hb.1, by omega⟩) ?_
      refine bd_ok (mh_ok hc ⟨hd.1, by omega⟩) ?_
      refine gd_ok (by first | omega | (constructor <;> omega) | assumption) ?_
      refine gd_ok (by first | omega | (constructor <;> omega) | assumption) ?_
      refine in_ok (c1) ?_
      refine ip_ok (c2) ?_
      rfl
    · refine ⟨1, ?_, Or.inr rfl, by omega⟩
      rw [m_X13_isLess]
      refine bd_ok (mh_ok ha ⟨hb.1, by omega⟩) ?_
      refine bd_ok (mh_ok hc ⟨hd.1, by omega⟩) ?_
      refine gd_ok (by first | omega | (constructor <;> omega) | assumption) ?_
      refine gd_ok (by first | omega | (constructor <;> omega) | assumption) ?_
      refine in_ok (c1) ?_
      refine in_ok (c2) ?_
      rfl
end
