/-! OUT -/
section
variable {N : Nat}
theorem putO {z w : Int} {st : Int → Int} (h : 0 ≤ z ∧ z < 1080) : m_X1_put N 1080 z st w = some (z + 1, uP st z (w % 256)) := by
  have e : m_X1_takes N z 1080 1 = some 1 := by
    rw [m_X1_takes]
    repeat (first | (with_reducible refine gd_ok ?_ ?_; focus (first | omega | assumption | ((repeat' refine And.intro ?_ ?_) <;> first | omega | assumption) | fail)) | (with_reducible refine ip_ok ?_ ?_; focus (first | omega | assumption | ((repeat' refine And.intro ?_ ?_) <;> first | omega | assumption) | fail)) | (with_reducible refine in_ok ?_ ?_; focus (first | omega | assumption | ((repeat' refine And.intro ?_ ?_) <;> first | omega | assumption) | fail)) | (rw [so_bd]; try dsimp only))
    all_goals rfl
  rw [m_X1_put]
  repeat (first | (with_reducible refine gd_ok ?_ ?_; focus (first | omega | assumption | ((repeat' refine And.intro ?_ ?_) <;> first | omega | assumption) | fail)) | (with_reducible refine ip_ok ?_ ?_; focus (first | omega | assumption | ((repeat' refine And.intro ?_ ?_) <;> first | omega | assumption) | fail)) | (with_reducible refine in_ok ?_ ?_; focus (first | omega | assumption | ((repeat' refine And.intro ?_ ?_) <;> first | omega | assumption) | fail)) | (rw [e, so_bd]; try dsimp only) | (rw [so_bd]; try dsimp only))
  all_goals rfl
theorem saysO {z w : Int} {st : Int → Int} (h : 0 ≤ z ∧ z < 1080) : m_X13_says N z st w = some (z + 1, uP st z w) := by
  rw [m_X13_says]
  repeat (first | (with_reducible refine gd_ok ?_ ?_; focus (first | omega | assumption | ((repeat' refine And.intro ?_ ?_) <;> first | omega | assumption) | fail)) | (with_reducible refine ip_ok ?_ ?_; focus (first | omega | assumption | ((repeat' refine And.intro ?_ ?_) <;> first | omega | assumption) | fail)) | (with_reducible refine in_ok ?_ ?_; focus (first | omega | assumption | ((repeat' refine And.intro ?_ ?_) <;> first | omega | assumption) | fail)) | (rw [so_bd]; try dsimp only))
  all_goals rfl
theorem OuR.up {z w w' : Int} {c r : Int → Int} (h : OuR z c r) (hz : z < 1080) (e : w = w') : OuR (z + 1) (uP c z w) (uP r z w') := by
  obtain ⟨h1, h2⟩ := h
  refine ⟨by omega, fun k k0 k1 => ?_⟩
  by_cases q : k = z
  · rw [q, uP_s, uP_s, e]
  · rw [uP_o _ _ q, uP_o _ _ q]
    exact h2 k k0 (by omega)
theorem n24_0 {v z : Int} {c : Int → Int} {f : Nat} : m_X1_putNumber_b24 N 1080 v (f + 1) z c 0 = some (z, c) := by
  rw [m_X1_putNumber_b24]
  repeat (first | (with_reducible refine gd_ok ?_ ?_; focus (first | omega | assumption | ((repeat' refine And.intro ?_ ?_) <;> first | omega | assumption) | fail)) | (with_reducible refine ip_ok ?_ ?_; focus (first | omega | assumption | ((repeat' refine And.intro ?_ ?_) <;> first | omega | assumption) | fail)) | (with_reducible refine in_ok ?_ ?_; focus (first | omega | assumption | ((repeat' refine And.intro ?_ ?_) <;> first | omega | assumption) | fail)) | (rw [so_bd]; try dsimp only))
  all_goals rfl
theorem n24_s {v z p q : Int} {c : Int → Int} {f : Nat} (hv : 0 ≤ v ∧ v ≤ 9999) (hz : 0 ≤ z ∧ z < 1080) (hp : 0 < p ∧ p ≤ 1000) (hq : p / 10 = q) (hd : 0 ≤ v / p ∧ v / p ≤ 9999) : m_X1_putNumber_b24 N 1080 v (f + 1) z c p = m_X1_putNumber_b24 N 1080 v f (z + 1) (uP c z ((48 + v / p % 10) % 256)) q := by
  rw [m_X1_putNumber_b24]
  repeat (first | (with_reducible refine gd_ok ?_ ?_; focus (first | omega | assumption | ((repeat' refine And.intro ?_ ?_) <;> first | omega | assumption) | fail)) | (with_reducible refine ip_ok ?_ ?_; focus (first | omega | assumption | ((repeat' refine And.intro ?_ ?_) <;> first | omega | assumption) | fail)) | (with_reducible refine in_ok ?_ ?_; focus (first | omega | assumption | ((repeat' refine And.intro ?_ ?_) <;> first | omega | assumption) | fail)) | (rw [putO hz, so_bd]; try dsimp only) | rw [hq] | (rw [so_bd]; try dsimp only))
  all_goals rfl
theorem n24_1 {v z : Int} {c : Int → Int} {F : Nat} (hF : 6 ≤ F) (hv : 0 ≤ v ∧ v ≤ 9999) (hz : 0 ≤ z ∧ z < 1080) : m_X1_putNumber_b24 N 1080 v F z c 1 = some (z + 1, uP c z (48 + v % 10)) := by
  obtain ⟨f, rfl⟩ : ∃ f, F = f + 2 := ⟨F - 2, by omega⟩
  rw [n24_s (q := 0) hv hz ⟨by decide, by decide⟩ rfl ⟨by omega, by omega⟩, n24_0, show (48 + v / 1 % 10) % 256 = 48 + v % 10 by omega]
theorem n24_2 {v z : Int} {c : Int → Int} {F : Nat} (hF : 6 ≤ F) (hv : 0 ≤ v ∧ v ≤ 9999) (hz : 0 ≤ z ∧ z + 1 < 1080) : m_X1_putNumber_b24 N 1080 v F z c 10 = some (z + 1 + 1, uP (uP c z (48 + v / 10 % 10)) (z + 1) (48 + v % 10)) := by
  obtain ⟨f, rfl⟩ : ∃ f, F = f + 3 := ⟨F - 3, by omega⟩
  rw [n24_s (q := 1) hv ⟨by omega, by omega⟩ ⟨by decide, by decide⟩ rfl ⟨by omega, by omega⟩, n24_s (q := 0) hv ⟨by omega, by omega⟩ ⟨by decide, by decide⟩ rfl ⟨by omega, by omega⟩, n24_0, show (48 + v / 1 % 10) % 256 = 48 + v % 10 by omega, show (48 + v / 10 % 10) % 256 = 48 + v / 10 % 10 by omega]
theorem n24_3 {v z : Int} {c : Int → Int} {F : Nat} (hF : 6 ≤ F) (hv : 0 ≤ v ∧ v ≤ 9999) (hz : 0 ≤ z ∧ z + 2 < 1080) : m_X1_putNumber_b24 N 1080 v F z c 100 = some (z + 1 + 1 + 1, uP (uP (uP c z (48 + v / 100 % 10)) (z + 1) (48 + v / 10 % 10)) (z + 1 + 1) (48 + v % 10)) := by
  obtain ⟨f, rfl⟩ : ∃ f, F = f + 4 := ⟨F - 4, by omega⟩
  rw [n24_s (q := 10) hv ⟨by omega, by omega⟩ ⟨by decide, by decide⟩ rfl ⟨by omega, by omega⟩, n24_s (q := 1) hv ⟨by omega, by omega⟩ ⟨by decide, by decide⟩ rfl ⟨by omega, by omega⟩, n24_s (q := 0) hv ⟨by omega, by omega⟩ ⟨by decide, by decide⟩ rfl ⟨by omega, by omega⟩, n24_0, show (48 + v / 1 % 10) % 256 = 48 + v % 10 by omega, show (48 + v / 10 % 10) % 256 = 48 + v / 10 % 10 by omega, show (48 + v / 100 % 10) % 256 = 48 + v / 100 % 10 by omega]
theorem n24_4 {v z : Int} {c : Int → Int} {F : Nat} (hF : 6 ≤ F) (hv : 0 ≤ v ∧ v ≤ 9999) (hz : 0 ≤ z ∧ z + 3 < 1080) : m_X1_putNumber_b24 N 1080 v F z c 1000 = some (z + 1 + 1 + 1 + 1, uP (uP (uP (uP c z (48 + v / 1000 % 10)) (z + 1) (48 + v / 100 % 10)) (z + 1 + 1) (48 + v / 10 % 10)) (z + 1 + 1 + 1) (48 + v % 10)) := by
  obtain ⟨f, rfl⟩ : ∃ f, F = f + 5 := ⟨F - 5, by omega⟩
  rw [n24_s (q := 100) hv ⟨by omega, by omega⟩ ⟨by decide, by decide⟩ rfl ⟨by omega, by omega⟩, n24_s (q := 10) hv ⟨by omega, by omega⟩ ⟨by decide, by decide⟩ rfl ⟨by omega, by omega⟩, n24_s (q := 1) hv ⟨by omega, by omega⟩ ⟨by decide, by decide⟩ rfl ⟨by omega, by omega⟩, n24_s (q := 0) hv ⟨by omega, by omega⟩ ⟨by decide, by decide⟩ rfl ⟨by omega, by omega⟩, n24_0, show (48 + v / 1 % 10) % 256 = 48 + v % 10 by omega, show (48 + v / 10 % 10) % 256 = 48 + v / 10 % 10 by omega, show (48 + v / 100 % 10) % 256 = 48 + v / 100 % 10 by omega, show (48 + v / 1000 % 10) % 256 = 48 + v / 1000 % 10 by omega]
theorem n2_s {v z p q : Int} {c : Int → Int} {f : Nat} (hv : 0 ≤ v ∧ v ≤ 9999) (hp : 0 < p ∧ p ≤ 1000) (hq : p * 10 = q) (h : 10 ≤ v / p ∧ v / p ≤ 9999) : m_X1_putNumber_b2 N 1080 v z c (f + 1) p = m_X1_putNumber_b2 N 1080 v z c f q := by
  rw [m_X1_putNumber_b2]
  repeat (first | (with_reducible refine gd_ok ?_ ?_; focus (first | omega | assumption | ((repeat' refine And.intro ?_ ?_) <;> first | omega | assumption) | fail)) | (with_reducible refine ip_ok ?_ ?_; focus (first | omega | assumption | ((repeat' refine And.intro ?_ ?_) <;> first | omega | assumption) | fail)) | (with_reducible refine in_ok ?_ ?_; focus (first | omega | assumption | ((repeat' refine And.intro ?_ ?_) <;> first | omega | assumption) | fail)) | rw [hq] | (rw [so_bd]; try dsimp only))
  all_goals rfl
theorem n2_e {v z p : Int} {c : Int → Int} {f : Nat} (hv : 0 ≤ v ∧ v ≤ 9999) (hp : 0 < p ∧ p ≤ 1000) (h : 0 ≤ v / p ∧ v / p < 10) : m_X1_putNumber_b2 N 1080 v z c (f + 1) p = m_X1_putNumber_b24 N 1080 v N z c p := by
  rw [m_X1_putNumber_b2]
  repeat (first | (with_reducible refine gd_ok ?_ ?_; focus (first | omega | assumption | ((repeat' refine And.intro ?_ ?_) <;> first | omega | assumption) | fail)) | (with_reducible refine ip_ok ?_ ?_; focus (first | omega | assumption | ((repeat' refine And.intro ?_ ?_) <;> first | omega | assumption) | fail)) | (with_reducible refine in_ok ?_ ?_; focus (first | omega | assumption | ((repeat' refine And.intro ?_ ?_) <;> first | omega | assumption) | fail)) | (rw [so_bd]; try dsimp only))
  all_goals rfl
theorem sn0 {v z : Int} {r : Int → Int} (hv : 0 ≤ v ∧ v ≤ 9) (hz : 0 ≤ z ∧ z < 1080) : m_X13_saysNumber_d0 N z r v = some (z + 1, uP r z (48 + v % 10)) ∧ m_X13_saysNumber_d1 N z r v = some (z + 1, uP r z (48 + v % 10)) ∧ m_X13_saysNumber_d2 N z r v = some (z + 1, uP r z (48 + v % 10)) ∧ m_X13_saysNumber_d3 N z r v = some (z + 1, uP r z (48 + v % 10)) ∧ m_X13_saysNumber_d4 N z r v = some (z + 1, uP r z (48 + v % 10)) := by
  refine ⟨?_, ?_, ?_, ?_, ?_⟩
  · rw [m_X13_saysNumber_d0]
    repeat (first | (with_reducible refine gd_ok ?_ ?_; focus (first | omega | assumption | ((repeat' refine And.intro ?_ ?_) <;> first | omega | assumption) | fail)) | (with_reducible refine ip_ok ?_ ?_; focus (first | omega | assumption | ((repeat' refine And.intro ?_ ?_) <;> first | omega | assumption) | fail)) | (with_reducible refine in_ok ?_ ?_; focus (first | omega | assumption | ((repeat' refine And.intro ?_ ?_) <;> first | omega | assumption) | fail)) | (rw [so_bd]; try dsimp only))
    rw [m_X13_saysNumber_d0_b17]
    repeat (first | (with_reducible refine gd_ok ?_ ?_; focus (first | omega | assumption | ((repeat' refine And.intro ?_ ?_) <;> first | omega | assumption) | fail)) | (with_reducible refine ip_ok ?_ ?_; focus (first | omega | assumption | ((repeat' refine And.intro ?_ ?_) <;> first | omega | assumption) | fail)) | (with_reducible refine in_ok ?_ ?_; focus (first | omega | assumption | ((repeat' refine And.intro ?_ ?_) <;> first | omega | assumption) | fail)) | (rw [saysO hz, so_bd]; try dsimp only) | (rw [so_bd]; try dsimp only))
    all_goals rfl
  · rw [m_X13_saysNumber_d1]
    repeat (first | (with_reducible refine gd_ok ?_ ?_; focus (first | omega | assumption | ((repeat' refine And.intro ?_ ?_) <;> first | omega | assumption) | fail)) | (with_reducible refine ip_ok ?_ ?_; focus (first | omega | assumption | ((repeat' refine And.intro ?_ ?_) <;> first | omega | assumption) | fail)) | (with_reducible refine in_ok ?_ ?_; focus (first | omega | assumption | ((repeat' refine And.intro ?_ ?_) <;> first | omega | assumption) | fail)) | (rw [so_bd]; try dsimp only))
    rw [m_X13_saysNumber_d1_b17]
    repeat (first | (with_reducible refine gd_ok ?_ ?_; focus (first | omega | assumption | ((repeat' refine And.intro ?_ ?_) <;> first | omega | assumption) | fail)) | (with_reducible refine ip_ok ?_ ?_; focus (first | omega | assumption | ((repeat' refine And.intro ?_ ?_) <;> first | omega | assumption) | fail)) | (with_reducible refine in_ok ?_ ?_; focus (first | omega | assumption | ((repeat' refine And.intro ?_ ?_) <;> first | omega | assumption) | fail)) | (rw [saysO hz, so_bd]; try dsimp only) | (rw [so_bd]; try dsimp only))
    all_goals rfl
  · rw [m_X13_saysNumber_d2]
    repeat (first | (with_reducible refine gd_ok ?_ ?_; focus (first | omega | assumption | ((repeat' refine And.intro ?_ ?_) <;> first | omega | assumption) | fail)) | (with_reducible refine ip_ok ?_ ?_; focus (first | omega | assumption | ((repeat' refine And.intro ?_ ?_) <;> first | omega | assumption) | fail)) | (with_reducible refine in_ok ?_ ?_; focus (first | omega | assumption | ((repeat' refine And.intro ?_ ?_) <;> first | omega | assumption) | fail)) | (rw [so_bd]; try dsimp only))
    rw [m_X13_saysNumber_d2_b17]
    repeat (first | (with_reducible refine gd_ok ?_ ?_; focus (first | omega | assumption | ((repeat' refine And.intro ?_ ?_) <;> first | omega | assumption) | fail)) | (with_reducible refine ip_ok ?_ ?_; focus (first | omega | assumption | ((repeat' refine And.intro ?_ ?_) <;> first | omega | assumption) | fail)) | (with_reducible refine in_ok ?_ ?_; focus (first | omega | assumption | ((repeat' refine And.intro ?_ ?_) <;> first | omega | assumption) | fail)) | (rw [saysO hz, so_bd]; try dsimp only) | (rw [so_bd]; try dsimp only))
    all_goals rfl
  · rw [m_X13_saysNumber_d3]
    repeat (first | (with_reducible refine gd_ok ?_ ?_; focus (first | omega | assumption | ((repeat' refine And.intro ?_ ?_) <;> first | omega | assumption) | fail)) | (with_reducible refine ip_ok ?_ ?_; focus (first | omega | assumption | ((repeat' refine And.intro ?_ ?_) <;> first | omega | assumption) | fail)) | (with_reducible refine in_ok ?_ ?_; focus (first | omega | assumption | ((repeat' refine And.intro ?_ ?_) <;> first | omega | assumption) | fail)) | (rw [so_bd]; try dsimp only))
    rw [m_X13_saysNumber_d3_b17]
    repeat (first | (with_reducible refine gd_ok ?_ ?_; focus (first | omega | assumption | ((repeat' refine And.intro ?_ ?_) <;> first | omega | assumption) | fail)) | (with_reducible refine ip_ok ?_ ?_; focus (first | omega | assumption | ((repeat' refine And.intro ?_ ?_) <;> first | omega | assumption) | fail)) | (with_reducible refine in_ok ?_ ?_; focus (first | omega | assumption | ((repeat' refine And.intro ?_ ?_) <;> first | omega | assumption) | fail)) | (rw [saysO hz, so_bd]; try dsimp only) | (rw [so_bd]; try dsimp only))
    all_goals rfl
  · rw [m_X13_saysNumber_d4]
    repeat (first | (with_reducible refine gd_ok ?_ ?_; focus (first | omega | assumption | ((repeat' refine And.intro ?_ ?_) <;> first | omega | assumption) | fail)) | (with_reducible refine ip_ok ?_ ?_; focus (first | omega | assumption | ((repeat' refine And.intro ?_ ?_) <;> first | omega | assumption) | fail)) | (with_reducible refine in_ok ?_ ?_; focus (first | omega | assumption | ((repeat' refine And.intro ?_ ?_) <;> first | omega | assumption) | fail)) | (rw [so_bd]; try dsimp only))
    rw [m_X13_saysNumber_d4_b17]
    repeat (first | (with_reducible refine gd_ok ?_ ?_; focus (first | omega | assumption | ((repeat' refine And.intro ?_ ?_) <;> first | omega | assumption) | fail)) | (with_reducible refine ip_ok ?_ ?_; focus (first | omega | assumption | ((repeat' refine And.intro ?_ ?_) <;> first | omega | assumption) | fail)) | (with_reducible refine in_ok ?_ ?_; focus (first | omega | assumption | ((repeat' refine And.intro ?_ ?_) <;> first | omega | assumption) | fail)) | (rw [saysO hz, so_bd]; try dsimp only) | (rw [so_bd]; try dsimp only))
    all_goals rfl
theorem sn1 {v z : Int} {r : Int → Int} (hv : 10 ≤ v ∧ v ≤ 99) (hz : 0 ≤ z ∧ z + 1 < 1080) : m_X13_saysNumber_d2 N z r v = some (z + 1 + 1, uP (uP r z (48 + v / 10 % 10)) (z + 1) (48 + v % 10)) ∧ m_X13_saysNumber_d3 N z r v = some (z + 1 + 1, uP (uP r z (48 + v / 10 % 10)) (z + 1) (48 + v % 10)) ∧ m_X13_saysNumber_d4 N z r v = some (z + 1 + 1, uP (uP r z (48 + v / 10 % 10)) (z + 1) (48 + v % 10)) := by
  have s := sn0 (N := N) (v := v / 10) (z := z) (r := r) ⟨by omega, by omega⟩ ⟨by omega, by omega⟩
  have t := fun (q : Int → Int) => saysO (N := N) (z := z + 1) (w := 48 + v % 10) (st := q) ⟨by omega, by omega⟩
  refine ⟨?_, ?_, ?_⟩
  · rw [m_X13_saysNumber_d2]
    repeat (first | (with_reducible refine gd_ok ?_ ?_; focus (first | omega | assumption | ((repeat' refine And.intro ?_ ?_) <;> first | omega | assumption) | fail)) | (with_reducible refine ip_ok ?_ ?_; focus (first | omega | assumption | ((repeat' refine And.intro ?_ ?_) <;> first | omega | assumption) | fail)) | (with_reducible refine in_ok ?_ ?_; focus (first | omega | assumption | ((repeat' refine And.intro ?_ ?_) <;> first | omega | assumption) | fail)) | (rw [s.2.1, so_bd]; try dsimp only) | (rw [so_bd]; try dsimp only))
    rw [m_X13_saysNumber_d2_b17]
    repeat (first | (with_reducible refine gd_ok ?_ ?_; focus (first | omega | assumption | ((repeat' refine And.intro ?_ ?_) <;> first | omega | assumption) | fail)) | (with_reducible refine ip_ok ?_ ?_; focus (first | omega | assumption | ((repeat' refine And.intro ?_ ?_) <;> first | omega | assumption) | fail)) | (with_reducible refine in_ok ?_ ?_; focus (first | omega | assumption | ((repeat' refine And.intro ?_ ?_) <;> first | omega | assumption) | fail)) | (rw [t _, so_bd]; try dsimp only) | (rw [so_bd]; try dsimp only))
    all_goals rfl
  · rw [m_X13_saysNumber_d3]
    repeat (first | (with_reducible refine gd_ok ?_ ?_; focus (first | omega | assumption | ((repeat' refine And.intro ?_ ?_) <;> first | omega | assumption) | fail)) | (with_reducible refine ip_ok ?_ ?_; focus (first | omega | assumption | ((repeat' refine And.intro ?_ ?_) <;> first | omega | assumption) | fail)) | (with_reducible refine in_ok ?_ ?_; focus (first | omega | assumption | ((repeat' refine And.intro ?_ ?_) <;> first | omega | assumption) | fail)) | (rw [s.2.2.1, so_bd]; try dsimp only) | (rw [so_bd]; try dsimp only))
    rw [m_X13_saysNumber_d3_b17]
    repeat (first | (with_reducible refine gd_ok ?_ ?_; focus (first | omega | assumption | ((repeat' refine And.intro ?_ ?_) <;> first | omega | assumption) | fail)) | (with_reducible refine ip_ok ?_ ?_; focus (first | omega | assumption | ((repeat' refine And.intro ?_ ?_) <;> first | omega | assumption) | fail)) | (with_reducible refine in_ok ?_ ?_; focus (first | omega | assumption | ((repeat' refine And.intro ?_ ?_) <;> first | omega | assumption) | fail)) | (rw [t _, so_bd]; try dsimp only) | (rw [so_bd]; try dsimp only))
    all_goals rfl
  · rw [m_X13_saysNumber_d4]
    repeat (first | (with_reducible refine gd_ok ?_ ?_; focus (first | omega | assumption | ((repeat' refine And.intro ?_ ?_) <;> first | omega | assumption) | fail)) | (with_reducible refine ip_ok ?_ ?_; focus (first | omega | assumption | ((repeat' refine And.intro ?_ ?_) <;> first | omega | assumption) | fail)) | (with_reducible refine in_ok ?_ ?_; focus (first | omega | assumption | ((repeat' refine And.intro ?_ ?_) <;> first | omega | assumption) | fail)) | (rw [s.2.2.2.1, so_bd]; try dsimp only) | (rw [so_bd]; try dsimp only))
    rw [m_X13_saysNumber_d4_b17]
    repeat (first | (with_reducible refine gd_ok ?_ ?_; focus (first | omega | assumption | ((repeat' refine And.intro ?_ ?_) <;> first | omega | assumption) | fail)) | (with_reducible refine ip_ok ?_ ?_; focus (first | omega | assumption | ((repeat' refine And.intro ?_ ?_) <;> first | omega | assumption) | fail)) | (with_reducible refine in_ok ?_ ?_; focus (first | omega | assumption | ((repeat' refine And.intro ?_ ?_) <;> first | omega | assumption) | fail)) | (rw [t _, so_bd]; try dsimp only) | (rw [so_bd]; try dsimp only))
    all_goals rfl
theorem sn2 {v z : Int} {r : Int → Int} (hv : 100 ≤ v ∧ v ≤ 999) (hz : 0 ≤ z ∧ z + 2 < 1080) : m_X13_saysNumber_d3 N z r v = some (z + 1 + 1 + 1, uP (uP (uP r z (48 + v / 100 % 10)) (z + 1) (48 + v / 10 % 10)) (z + 1 + 1) (48 + v % 10)) ∧ m_X13_saysNumber_d4 N z r v = some (z + 1 + 1 + 1, uP (uP (uP r z (48 + v / 100 % 10)) (z + 1) (48 + v / 10 % 10)) (z + 1 + 1) (48 + v % 10)) := by
  have s := sn1 (N := N) (v := v / 10) (z := z) (r := r) ⟨by omega, by omega⟩ ⟨by omega, by omega⟩
  rw [show v / 10 / 10 = v / 100 by omega] at s
  have t := fun (q : Int → Int) => saysO (N := N) (z := z + 1 + 1) (w := 48 + v % 10) (st := q) ⟨by omega, by omega⟩
  refine ⟨?_, ?_⟩
  · rw [m_X13_saysNumber_d3]
    repeat (first | (with_reducible refine gd_ok ?_ ?_; focus (first | omega | assumption | ((repeat' refine And.intro ?_ ?_) <;> first | omega | assumption) | fail)) | (with_reducible refine ip_ok ?_ ?_; focus (first | omega | assumption | ((repeat' refine And.intro ?_ ?_) <;> first | omega | assumption) | fail)) | (with_reducible refine in_ok ?_ ?_; focus (first | omega | assumption | ((repeat' refine And.intro ?_ ?_) <;> first | omega | assumption) | fail)) | (rw [s.1, so_bd]; try dsimp only) | (rw [so_bd]; try dsimp only))
    rw [m_X13_saysNumber_d3_b17]
    repeat (first | (with_reducible refine gd_ok ?_ ?_; focus (first | omega | assumption | ((repeat' refine And.intro ?_ ?_) <;> first | omega | assumption) | fail)) | (with_reducible refine ip_ok ?_ ?_; focus (first | omega | assumption | ((repeat' refine And.intro ?_ ?_) <;> first | omega | assumption) | fail)) | (with_reducible refine in_ok ?_ ?_; focus (first | omega | assumption | ((repeat' refine And.intro ?_ ?_) <;> first | omega | assumption) | fail)) | (rw [t _, so_bd]; try dsimp only) | (rw [so_bd]; try dsimp only))
    all_goals rfl
  · rw [m_X13_saysNumber_d4]
    repeat (first | (with_reducible refine gd_ok ?_ ?_; focus (first | omega | assumption | ((repeat' refine And.intro ?_ ?_) <;> first | omega | assumption) | fail)) | (with_reducible refine ip_ok ?_ ?_; focus (first | omega | assumption | ((repeat' refine And.intro ?_ ?_) <;> first | omega | assumption) | fail)) | (with_reducible refine in_ok ?_ ?_; focus (first | omega | assumption | ((repeat' refine And.intro ?_ ?_) <;> first | omega | assumption) | fail)) | (rw [s.2.1, so_bd]; try dsimp only) | (rw [so_bd]; try dsimp only))
    rw [m_X13_saysNumber_d4_b17]
    repeat (first | (with_reducible refine gd_ok ?_ ?_; focus (first | omega | assumption | ((repeat' refine And.intro ?_ ?_) <;> first | omega | assumption) | fail)) | (with_reducible refine ip_ok ?_ ?_; focus (first | omega | assumption | ((repeat' refine And.intro ?_ ?_) <;> first | omega | assumption) | fail)) | (with_reducible refine in_ok ?_ ?_; focus (first | omega | assumption | ((repeat' refine And.intro ?_ ?_) <;> first | omega | assumption) | fail)) | (rw [t _, so_bd]; try dsimp only) | (rw [so_bd]; try dsimp only))
    all_goals rfl
theorem sn3 {v z : Int} {r : Int → Int} (hv : 1000 ≤ v ∧ v ≤ 9999) (hz : 0 ≤ z ∧ z + 3 < 1080) : m_X13_saysNumber_d4 N z r v = some (z + 1 + 1 + 1 + 1, uP (uP (uP (uP r z (48 + v / 1000 % 10)) (z + 1) (48 + v / 100 % 10)) (z + 1 + 1) (48 + v / 10 % 10)) (z + 1 + 1 + 1) (48 + v % 10)) := by
  have s := sn2 (N := N) (v := v / 10) (z := z) (r := r) ⟨by omega, by omega⟩ ⟨by omega, by omega⟩
  rw [show v / 10 / 10 = v / 100 by omega, show v / 10 / 100 = v / 1000 by omega] at s
  have t := fun (q : Int → Int) => saysO (N := N) (z := z + 1 + 1 + 1) (w := 48 + v % 10) (st := q) ⟨by omega, by omega⟩
  rw [m_X13_saysNumber_d4]
  repeat (first | (with_reducible refine gd_ok ?_ ?_; focus (first | omega | assumption | ((repeat' refine And.intro ?_ ?_) <;> first | omega | assumption) | fail)) | (with_reducible refine ip_ok ?_ ?_; focus (first | omega | assumption | ((repeat' refine And.intro ?_ ?_) <;> first | omega | assumption) | fail)) | (with_reducible refine in_ok ?_ ?_; focus (first | omega | assumption | ((repeat' refine And.intro ?_ ?_) <;> first | omega | assumption) | fail)) | (rw [s.1, so_bd]; try dsimp only) | (rw [so_bd]; try dsimp only))
  rw [m_X13_saysNumber_d4_b17]
  repeat (first | (with_reducible refine gd_ok ?_ ?_; focus (first | omega | assumption | ((repeat' refine And.intro ?_ ?_) <;> first | omega | assumption) | fail)) | (with_reducible refine ip_ok ?_ ?_; focus (first | omega | assumption | ((repeat' refine And.intro ?_ ?_) <;> first | omega | assumption) | fail)) | (with_reducible refine in_ok ?_ ?_; focus (first | omega | assumption | ((repeat' refine And.intro ?_ ?_) <;> first | omega | assumption) | fail)) | (rw [t _, so_bd]; try dsimp only) | (rw [so_bd]; try dsimp only))
  all_goals rfl
theorem num_ok (hN : 40000 ≤ N) {v z : Int} {c r : Int → Int} (h : OuR z c r) (hv : 0 ≤ v ∧ v ≤ 9999) (hz : v ≤ 999 ∧ z + 3 ≤ 1080 ∨ z + 4 ≤ 1080) : ∃ z' c' r', m_X1_putNumber N 1080 z c v = some (z', c') ∧ m_X13_saysNumber_d4 N z r v = some (z', r') ∧ OuR z' c' r' ∧ z' ≤ z + 4 ∧ (v ≤ 999 → z' ≤ z + 3) := by
  have h1 := h.1
  have hF : 6 ≤ N := by omega
  have e0 : m_X1_putNumber N 1080 z c v = m_X1_putNumber_b2 N 1080 v z c N 1 := rfl
  obtain ⟨f, ef⟩ : ∃ f, N = f + 4 := ⟨N - 4, by omega⟩
  have e0 : m_X1_putNumber N 1080 z c v = m_X1_putNumber_b2 N 1080 v z c (f + 4) 1 := by rw [e0, ← ef]
  rcases (by omega : v ≤ 9 ∨ (10 ≤ v ∧ v ≤ 99) ∨ (100 ≤ v ∧ v ≤ 999) ∨ 1000 ≤ v) with d | d | d | d
  · refine ⟨z + 1, _, _, ?_, (sn0 ⟨hv.1, d⟩ ⟨by omega, by omega⟩).2.2.2.2, h.up (w := 48 + v % 10) (by omega) rfl, by omega, by omega⟩
    rw [e0, n2_e hv ⟨by decide, by decide⟩ ⟨by omega, by omega⟩, n24_1 hF hv ⟨by omega, by omega⟩]
  · refine ⟨z + 1 + 1, _, _, ?_, (sn1 d ⟨by omega, by omega⟩).2.2, (h.up (w := 48 + v / 10 % 10) (by omega) rfl).up (w := 48 + v % 10) (by omega) rfl, by omega, by omega⟩
    rw [e0, n2_s (q := 10) hv ⟨by decide, by decide⟩ rfl ⟨by omega, by omega⟩, n2_e hv ⟨by decide, by decide⟩ ⟨by omega, by omega⟩, n24_2 hF hv ⟨by omega, by omega⟩]
  · refine ⟨z + 1 + 1 + 1, _, _, ?_, (sn2 d ⟨by omega, by omega⟩).2, ((h.up (w := 48 + v / 100 % 10) (by omega) rfl).up (w := 48 + v / 10 % 10) (by omega) rfl).up (w := 48 + v % 10) (by omega) rfl, by omega, by omega⟩
    rw [e0, n2_s (q := 10) hv ⟨by decide, by decide⟩ rfl ⟨by omega, by omega⟩, n2_s (q := 100) hv ⟨by decide, by decide⟩ rfl ⟨by omega, by omega⟩, n2_e hv ⟨by decide, by decide⟩ ⟨by omega, by omega⟩, n24_3 hF hv ⟨by omega, by omega⟩]
  · refine ⟨z + 1 + 1 + 1 + 1, _, _, ?_, sn3 ⟨d, hv.2⟩ ⟨by omega, by omega⟩, (((h.up (w := 48 + v / 1000 % 10) (by omega) rfl).up (w := 48 + v / 100 % 10) (by omega) rfl).up (w := 48 + v / 10 % 10) (by omega) rfl).up (w := 48 + v % 10) (by omega) rfl, by omega, by omega⟩
    rw [e0, n2_s (q := 10) hv ⟨by decide, by decide⟩ rfl ⟨by omega, by omega⟩, n2_s (q := 100) hv ⟨by decide, by decide⟩ rfl ⟨by omega, by omega⟩, n2_s (q := 1000) hv ⟨by decide, by decide⟩ rfl ⟨by omega, by omega⟩, n2_e hv ⟨by decide, by decide⟩ ⟨by omega, by omega⟩, n24_4 hF hv ⟨by omega, by omega⟩]
theorem chr_ok {z w : Int} {c r : Int → Int} (h : OuR z c r) (hz : z < 1080) (hw : 0 ≤ w ∧ w ≤ 255) : m_X1_put N 1080 z c w = some (z + 1, uP c z w) ∧ m_X13_says N z r w = some (z + 1, uP r z w) ∧ OuR (z + 1) (uP c z w) (uP r z w) := by
  have h1 := h.1
  refine ⟨?_, saysO ⟨h1.1, hz⟩, h.up hz rfl⟩
  rw [putO ⟨h1.1, hz⟩, show w % 256 = w by omega]
end
section
variable {N : Nat} {g b stt : Int → Int} {le mo sp run run' : Int} {sd rz pz bz : Int} {rsc rgo rba rgA rbA ple pgr pgo pba pri ble bgr bgo bba bri : Int → Int} {rsc' rgo' rba' rgA' rbA' ple' pgr' pgo' pba' pri' ble' bgr' bgo' bba' bri' : Int → Int} {z1 z2 : Int} {s1 s2 s3 s4 : Int → Int}
variable {oz : Int} {oc or_ : Int → Int}
theorem tell_lp (hN : 40000 ≤ N) (ok : okP g b) (h99 : cG g b (cn g b) ≤ 9999 ∧ cB g b (cn g b) ≤ 9999) {sc go ba st' : Int → Int} (hr : RwA g b sc go ba) (hb : Bd (cn g b) (bst g b le mo) (bmm g b le mo)) (hs : SA st' (bst g b le mo) (bmm g b le mo)) (hL : Lad (cs g b) (cG g b) (cB g b) (bst g b le mo) (bmm g b le mo) ble' bgr' bgo' bba' bri') : ∀ (f : Nat) (z y : Int) (c r : Int → Int), 0 ≤ y → y ≤ bmm g b le mo → OuR z c r → z ≤ 18 * y → (bmm g b le mo - y).toNat < f → ∃ z' c' r', m_X12_tell_b14 N le mo g b sp 1 (cn g b) rsc' rgo' rba' rgA' rbA' (pmm g b) ple' pgr' pgo' pba' pri' (bmm g b le mo) ble' bgr' bgo' bba' bri' run' f z c y = some (z', 1, z', c', cn g b, rsc', rgo', rba', rgA', rbA', pmm g b, ple', pgr', pgo', pba', pri', bmm g b le mo, ble', bgr', bgo', bba', bri', run') ∧ m_X13_tell_b11 N stt (cn g b) (bmm g b le mo) sc go ba st' f z r y = some (z', cn g b, bmm g b le mo, z', sc, go, ba, st', r') ∧ OuR z' c' r' := by
  have ok2 := ok.2.1
  have hm := hb.1
  intro f
  induction f with
  | zero => intro z y c r _ _ _ _ h; omega
  | succ f ih =>
    intro z y c r h0 h1 hO hz hf
    have hz0 := hO.1
    rw [m_X12_tell_b14, m_X13_tell_b11]
    by_cases d : bmm g b le mo ≤ y
    · refine ⟨z, c, r, ?_, ?_, hO⟩
      · repeat (first | (with_reducible refine gd_ok ?_ ?_; focus (first | omega | assumption | ((repeat' refine And.intro ?_ ?_) <;> first | omega | assumption) | fail)) | (with_reducible refine ip_ok ?_ ?_; focus (first | omega | assumption | ((repeat' refine And.intro ?_ ?_) <;> first | omega | assumption) | fail)) | (with_reducible refine in_ok ?_ ?_; focus (first | omega | assumption | ((repeat' refine And.intro ?_ ?_) <;> first | omega | assumption) | fail)) | (rw [so_bd]; try dsimp only))
        all_goals rfl
      · repeat (first | (with_reducible refine gd_ok ?_ ?_; focus (first | omega | assumption | ((repeat' refine And.intro ?_ ?_) <;> first | omega | assumption) | fail)) | (with_reducible refine ip_ok ?_ ?_; focus (first | omega | assumption | ((repeat' refine And.intro ?_ ?_) <;> first | omega | assumption) | fail)) | (with_reducible refine in_ok ?_ ?_; focus (first | omega | assumption | ((repeat' refine And.intro ?_ ?_) <;> first | omega | assumption) | fail)) | (rw [so_bd]; try dsimp only))
        all_goals rfl
    · obtain ⟨a1, a2, a3, a4, -⟩ := hL y h0 (by omega)
      have e1 := hs y h0 (by omega)
      have e2 := hs (y + 1) (by omega) (by omega)
      have b1 := hb.in_ (k := y) h0 (by omega)
      have b2 := hb.in_ (k := y + 1) (by omega) (by omega)
      have b3 := hb.2.2.2 y h0 (by omega)
      have r1 := (hr (bst g b le mo y) b1.1 (by omega)).1
      have r2 := (hr (bst g b le mo (y + 1) - 1) (by omega) (by omega)).1
      have c1 := cs_in (g := g) (b := b) (i := bst g b le mo y) b1.1 (by omega)
      have c2 := cs_in (g := g) (b := b) (i := bst g b le mo (y + 1) - 1) (by omega) (by omega)
      have bb := hb.b ok h0 (show y < bmm g b le mo by omega)
      have g1 := cG_b ok b2.1 b2.2
      have g2 := cG_b ok b1.1 b1.2
      have g3 := cG_m ok b2.1 b2.2 (Int.le_refl _)
      have g4 := cB_m ok b2.1 b2.2 (Int.le_refl _)
      have q1 : bG (cG g b) (bst g b le mo) y = cG g b (bst g b le mo (y + 1)) - cG g b (bst g b le mo y) := rfl
      have q2 : bG (cB g b) (bst g b le mo) y = cB g b (bst g b le mo (y + 1)) - cB g b (bst g b le mo y) := rfl
      have u0 := ofBand0 (N := N) hN ok hr hb hs h0 (show y < bmm g b le mo by omega)
      have u1 := ofBand1 (N := N) hN ok hr hb hs h0 (show y < bmm g b le mo by omega)
      obtain ⟨z1, k1, t1, A1, A2, A3, A4, A5⟩ := num_ok hN hO (v := cs g b (bst g b le mo y)) ⟨by omega, by omega⟩ (by omega)
      have A5 := A5 (by omega)
      have B := chr_ok (N := N) (w := 45) A3 (by omega) ⟨by decide, by decide⟩
      obtain ⟨z2, k2, t2, C1, C2, C3, C4, C5⟩ := num_ok hN B.2.2 (v := cs g b (bst g b le mo (y + 1) - 1)) ⟨by omega, by omega⟩ (by omega)
      have C5 := C5 (by omega)
      have D := chr_ok (N := N) (w := 32) C3 (by omega) ⟨by decide, by decide⟩
      obtain ⟨z3, k3, t3, E1, E2, E3, E4, E5⟩ := num_ok hN D.2.2 (v := bG (cG g b) (bst g b le mo) y) ⟨by omega, by omega⟩ (by omega)
      have F := chr_ok (N := N) (w := 32) E3 (by omega) ⟨by decide, by decide⟩
      obtain ⟨z4, k4, t4, G1, G2, G3, G4, G5⟩ := num_ok hN F.2.2 (v := bG (cB g b) (bst g b le mo) y) ⟨by omega, by omega⟩ (by omega)
      have H := chr_ok (N := N) (w := 59) G3 (by omega) ⟨by decide, by decide⟩
      obtain ⟨z', c', r', I1, I2, I3⟩ := ih (z4 + 1) (y + 1) _ _ (by omega) (by omega) H.2.2 (by omega) (by omega)
      refine ⟨z', c', r', ?_, ?_, I3⟩
      · rw [a1, a2, a3, a4]
        repeat (first | (with_reducible refine gd_ok ?_ ?_; focus (first | omega | assumption | ((repeat' refine And.intro ?_ ?_) <;> first | omega | assumption) | fail)) | (with_reducible refine ip_ok ?_ ?_; focus (first | omega | assumption | ((repeat' refine And.intro ?_ ?_) <;> first | omega | assumption) | fail)) | (with_reducible refine in_ok ?_ ?_; focus (first | omega | assumption | ((repeat' refine And.intro ?_ ?_) <;> first | omega | assumption) | fail)) | (rw [A1, so_bd]; try dsimp only) | (rw [B.1, so_bd]; try dsimp only) | (rw [C1, so_bd]; try dsimp only) | (rw [D.1, so_bd]; try dsimp only) | (rw [E1, so_bd]; try dsimp only) | (rw [F.1, so_bd]; try dsimp only) | (rw [G1, so_bd]; try dsimp only) | (rw [H.1, so_bd]; try dsimp only) | (rw [so_bd]; try dsimp only))
        exact I1
      · rw [e1, e2, r1, r2]
        repeat (first | (with_reducible refine gd_ok ?_ ?_; focus (first | omega | assumption | ((repeat' refine And.intro ?_ ?_) <;> first | omega | assumption) | fail)) | (with_reducible refine ip_ok ?_ ?_; focus (first | omega | assumption | ((repeat' refine And.intro ?_ ?_) <;> first | omega | assumption) | fail)) | (with_reducible refine in_ok ?_ ?_; focus (first | omega | assumption | ((repeat' refine And.intro ?_ ?_) <;> first | omega | assumption) | fail)) | (rw [A2, so_bd]; try dsimp only) | (rw [B.2.1, so_bd]; try dsimp only) | (rw [C2, so_bd]; try dsimp only) | (rw [D.2.1, so_bd]; try dsimp only) | (rw [u0, so_bd]; try dsimp only) | (rw [E2, so_bd]; try dsimp only) | (rw [F.2.1, so_bd]; try dsimp only) | (rw [u1, so_bd]; try dsimp only) | (rw [G2, so_bd]; try dsimp only) | (rw [H.2.1, so_bd]; try dsimp only) | (rw [so_bd]; try dsimp only))
        exact I2
theorem q_tell (hN : 40000 ≤ N) (ok : okP g b) (hle : 0 ≤ le ∧ le ≤ 9999) (hmo : 1 ≤ mo ∧ mo ≤ 60) (hset : m_X12_settle N le mo g b sp sd rz rsc rgo rba rgA rbA pz ple pgr pgo pba pri bz ble bgr bgo bba bri run = some (1, cn g b, rsc', rgo', rba', rgA', rbA', pmm g b, ple', pgr', pgo', pba', pri', bmm g b le mo, ble', bgr', bgo', bba', bri', run')) (hS : Stl g b le mo rsc' rgo' rba' rgA' rbA' ple' pgr' pgo' pba' pri' ble' bgr' bgo' bba' bri') (hst : StA stt g b) (h3 : stt 3201 = le ∧ stt 3202 = mo) (h99 : cG g b (cn g b) ≤ 9999 ∧ cB g b (cn g b) ≤ 9999) {o1 : Int} {o2 o3 : Int → Int} : ∃ z' c' r', m_X12_tell N le mo g b sp sd oz oc rz rsc rgo rba rgA rbA pz ple pgr pgo pba pri bz ble bgr bgo bba bri run = some (z', 1, z', c', cn g b, rsc', rgo', rba', rgA', rbA', pmm g b, ple', pgr', pgo', pba', pri', bmm g b le mo, ble', bgr', bgo', bba', bri', run') ∧ (∃ r, m_X13_tell N stt z1 z2 o1 s1 s2 s3 s4 o2 = some (z', r) ∧ r.2.2.1 = z' ∧ r.2.2.2.2.2.2.2 = r') ∧ OuR z' c' r' := by
  obtain ⟨sc1, go1, ba1, ar1, lb1, hr, hsa, hb⟩ := laysB (z1 := z1) (z2 := z2) (s1 := s1) (s2 := s2) (s3 := s3) (s4 := s4) hN ok hle hmo hst h3
  obtain ⟨hn, hbm, hpm⟩ := le_mo ok hle hmo
  obtain ⟨S1, S2, S3, S4⟩ := hS
  obtain ⟨z', c', r', I1, I2, I3⟩ := tell_lp (N := N) (sp := sp) (stt := stt) (run' := run') (rsc' := rsc') (rgo' := rgo') (rba' := rba') (rgA' := rgA') (rbA' := rbA') (ple' := ple') (pgr' := pgr') (pgo' := pgo') (pba' := pba') (pri' := pri') hN ok h99 hr hb hsa S4 N 0 0 oc o2 (Int.le_refl 0) hbm.1 ⟨⟨by decide, by decide⟩, fun k k0 k1 => by omega⟩ (by decide) (by omega)
  refine ⟨z', c', r', ?_, ⟨(cn g b, bmm g b le mo, z', sc1, go1, ba1, ar1, r'), ?_, rfl, rfl⟩, I3⟩
  rotate_left
  · rw [m_X13_tell]
    repeat (first | (with_reducible refine gd_ok ?_ ?_; focus (first | omega | assumption | ((repeat' refine And.intro ?_ ?_) <;> first | omega | assumption) | fail)) | (with_reducible refine ip_ok ?_ ?_; focus (first | omega | assumption | ((repeat' refine And.intro ?_ ?_) <;> first | omega | assumption) | fail)) | (with_reducible refine in_ok ?_ ?_; focus (first | omega | assumption | ((repeat' refine And.intro ?_ ?_) <;> first | omega | assumption) | fail)) | (rw [lb1, so_bd]; try dsimp only) | (rw [so_bd]; try dsimp only))
    exact I2
  · rw [m_X12_tell]
    repeat (first | (with_reducible refine gd_ok ?_ ?_; focus (first | omega | assumption | ((repeat' refine And.intro ?_ ?_) <;> first | omega | assumption) | fail)) | (with_reducible refine ip_ok ?_ ?_; focus (first | omega | assumption | ((repeat' refine And.intro ?_ ?_) <;> first | omega | assumption) | fail)) | (with_reducible refine in_ok ?_ ?_; focus (first | omega | assumption | ((repeat' refine And.intro ?_ ?_) <;> first | omega | assumption) | fail)) | (rw [hset, so_bd]; try dsimp only) | (rw [so_bd]; try dsimp only))
    exact I1
end
