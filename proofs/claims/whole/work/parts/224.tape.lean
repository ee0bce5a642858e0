/-! the tape, months, what is asked without rows -/
def TpR (z : Int) (c r : Int → Int) : Prop := (0 ≤ z ∧ z ≤ 1600) ∧ ∀ k, 0 ≤ k → k < z → c k = r k ∧ 0 ≤ c k ∧ c k ≤ 255
def byt (w j : Int) : Int := w % 4294967296 / ((2 : Int) ^ (24 - (8 * j)).toNat) % 256
section
variable {N : Nat}
theorem put_ok {z w : Int} {st : Int → Int} (h : 0 ≤ z ∧ z < 1600) : m_X1_put N 1600 z st w = some (z + 1, uP st z (w % 256)) := by
  have e : m_X1_takes N z 1600 1 = some 1 := by
    rw [m_X1_takes]
    repeat (first | (with_reducible refine gd_ok ?_ ?_; focus (first | omega | assumption | ((repeat' refine And.intro ?_ ?_) <;> first | omega | assumption) | fail)) | (with_reducible refine ip_ok ?_ ?_; focus (first | omega | assumption | ((repeat' refine And.intro ?_ ?_) <;> first | omega | assumption) | fail)) | (with_reducible refine in_ok ?_ ?_; focus (first | omega | assumption | ((repeat' refine And.intro ?_ ?_) <;> first | omega | assumption) | fail)) | (rw [so_bd]; try dsimp only))
    all_goals rfl
  rw [m_X1_put]
  repeat (first | (with_reducible refine gd_ok ?_ ?_; focus (first | omega | assumption | ((repeat' refine And.intro ?_ ?_) <;> first | omega | assumption) | fail)) | (with_reducible refine ip_ok ?_ ?_; focus (first | omega | assumption | ((repeat' refine And.intro ?_ ?_) <;> first | omega | assumption) | fail)) | (with_reducible refine in_ok ?_ ?_; focus (first | omega | assumption | ((repeat' refine And.intro ?_ ?_) <;> first | omega | assumption) | fail)) | (rw [e, so_bd]; try dsimp only) | (rw [so_bd]; try dsimp only))
  all_goals rfl
theorem byt_0 (w : Int) : w % 4294967296 / 16777216 % 256 = byt w 0 := rfl
theorem byt_1 (w : Int) : w % 4294967296 / 65536 % 256 = byt w 1 := rfl
theorem byt_2 (w : Int) : w % 4294967296 / 256 % 256 = byt w 2 := rfl
theorem byt_3 (w : Int) : w % 256 = byt w 3 := by
  have e : byt w 3 = w % 4294967296 / 1 % 256 := rfl
  rw [e]
  omega
theorem byt_in (w j : Int) : 0 ≤ byt w j ∧ byt w j ≤ 255 := by
  unfold byt
  omega
theorem putWord_ok {z w : Int} {st : Int → Int} (h : 0 ≤ z ∧ z + 4 ≤ 1600) : ∃ st', m_X1_putWord N 1600 z st w = some (z + 4, st') ∧ (∀ k, k < z → st' k = st k) ∧ ∀ j, 0 ≤ j → j < 4 → st' (z + j) = byt w j := by
  refine ⟨uP (uP (uP (uP st z (byt w 0)) (z + 1) (byt w 1)) (z + 1 + 1) (byt w 2)) (z + 1 + 1 + 1) (byt w 3), ?_, fun k hk => ?_, fun j j0 j1 => ?_⟩
  · rw [m_X1_putWord]
    repeat (first | (with_reducible refine gd_ok ?_ ?_; focus (first | omega | assumption | ((repeat' refine And.intro ?_ ?_) <;> first | omega | assumption) | fail)) | (with_reducible refine ip_ok ?_ ?_; focus (first | omega | assumption | ((repeat' refine And.intro ?_ ?_) <;> first | omega | assumption) | fail)) | (with_reducible refine in_ok ?_ ?_; focus (first | omega | assumption | ((repeat' refine And.intro ?_ ?_) <;> first | omega | assumption) | fail)) | (rw [put_ok (z := z) ⟨by omega, by omega⟩, so_bd]; try dsimp only) | (rw [put_ok (z := z + 1) ⟨by omega, by omega⟩, so_bd]; try dsimp only) | (rw [put_ok (z := z + 1 + 1) ⟨by omega, by omega⟩, so_bd]; try dsimp only) | (rw [put_ok (z := z + 1 + 1 + 1) ⟨by omega, by omega⟩, so_bd]; try dsimp only) | (rw [so_bd]; try dsimp only))
    rw [byt_0, byt_1, byt_2, byt_3, show z + 1 + 1 + 1 + 1 = z + 4 by omega]
  · rw [uP_o _ _ (by omega), uP_o _ _ (by omega), uP_o _ _ (by omega), uP_o _ _ (by omega)]
  · rcases (by omega : j = 0 ∨ j = 1 ∨ j = 2 ∨ j = 3) with e | e | e | e
    · subst e
      rw [uP_o _ _ (by omega), uP_o _ _ (by omega), uP_o _ _ (by omega), Int.add_zero, uP_s]
    · subst e
      rw [uP_o _ _ (by omega), uP_o _ _ (by omega), uP_s]
    · subst e
      rw [uP_o _ _ (by omega), show z + 2 = z + 1 + 1 by omega, uP_s]
    · subst e
      rw [show z + 3 = z + 1 + 1 + 1 by omega, uP_s]
theorem feed_b42_ok {x1 x2 x3 x4 x5 t : Int} {v : Int → Int} (ht : 0 ≤ t ∧ t + 20 ≤ 1600) : ∀ (f : Nat) (tp : Int → Int) (y : Int), 0 ≤ y → y ≤ 20 → (20 - y).toNat < f → ∃ tp', m_X13_feed_b42 N x1 x2 x3 x4 x5 t f tp y v = some (t + 20, t + 20, tp') ∧ (∀ k, k < t + y → tp' k = tp k) ∧ ∀ j, y ≤ j → j < 20 → tp' (t + j) = byt (v (j / 4)) (j % 4) := by
  intro f
  induction f with
  | zero => intro tp y _ _ h; omega
  | succ f ih =>
    intro tp y h0 h1 hf
    rw [m_X13_feed_b42]
    by_cases c : 20 ≤ y
    · refine ⟨tp, ?_, fun k _ => rfl, fun j j0 j1 => by omega⟩
      repeat (first | (with_reducible refine gd_ok ?_ ?_; focus (first | omega | assumption | ((repeat' refine And.intro ?_ ?_) <;> first | omega | assumption) | fail)) | (with_reducible refine ip_ok ?_ ?_; focus (first | omega | assumption | ((repeat' refine And.intro ?_ ?_) <;> first | omega | assumption) | fail)) | (with_reducible refine in_ok ?_ ?_; focus (first | omega | assumption | ((repeat' refine And.intro ?_ ?_) <;> first | omega | assumption) | fail)) | (rw [so_bd]; try dsimp only))
      all_goals rfl
    · obtain ⟨tp', q1, q2, q3⟩ := ih (uP tp (t + y) (byt (v (y / 4)) (y % 4))) (y + 1) (by omega) (by omega) (by omega)
      refine ⟨tp', ?_, fun k hk => ?_, fun j j0 j1 => ?_⟩
      · repeat (first | (with_reducible refine gd_ok ?_ ?_; focus (first | omega | assumption | ((repeat' refine And.intro ?_ ?_) <;> first | omega | assumption) | fail)) | (with_reducible refine ip_ok ?_ ?_; focus (first | omega | assumption | ((repeat' refine And.intro ?_ ?_) <;> first | omega | assumption) | fail)) | (with_reducible refine in_ok ?_ ?_; focus (first | omega | assumption | ((repeat' refine And.intro ?_ ?_) <;> first | omega | assumption) | fail)) | (rw [so_bd]; try dsimp only))
        exact q1
      · rw [q2 k (by omega), uP_o _ _ (by omega)]
      · by_cases e : j = y
        · rw [e, q2 (t + y) (by omega), uP_s]
        · exact q3 j (by omega) j1
theorem s_feed {z : Int} {c r : Int → Int} (h : TpR z c r) (hN : 40000 ≤ N) {x1 x2 x3 x4 x5 : Int} : ∃ a z' c' r', m_X12_feed N z c x1 x2 x3 x4 x5 = some (a, z', c') ∧ m_X13_feed N z r x1 x2 x3 x4 x5 = some (a, z', r') ∧ TpR z' c' r' := by
  obtain ⟨hz, hk⟩ := h
  rw [m_X12_feed, m_X13_feed]
  by_cases d : z ≤ 1580
  · have e : m_X1_takes N z 1600 20 = some 1 := by
      rw [m_X1_takes]
      repeat (first | (with_reducible refine gd_ok ?_ ?_; focus (first | omega | assumption | ((repeat' refine And.intro ?_ ?_) <;> first | omega | assumption) | fail)) | (with_reducible refine ip_ok ?_ ?_; focus (first | omega | assumption | ((repeat' refine And.intro ?_ ?_) <;> first | omega | assumption) | fail)) | (with_reducible refine in_ok ?_ ?_; focus (first | omega | assumption | ((repeat' refine And.intro ?_ ?_) <;> first | omega | assumption) | fail)) | (rw [so_bd]; try dsimp only))
      all_goals rfl
    obtain ⟨t1, a1, a2, a3⟩ := putWord_ok (N := N) (z := z) (w := x1) (st := c) ⟨by omega, by omega⟩
    obtain ⟨t2, b1, b2, b3⟩ := putWord_ok (N := N) (z := z + 4) (w := x2) (st := t1) ⟨by omega, by omega⟩
    obtain ⟨t3, c1, c2, c3⟩ := putWord_ok (N := N) (z := z + 4 + 4) (w := x3) (st := t2) ⟨by omega, by omega⟩
    obtain ⟨t4, d1, d2, d3⟩ := putWord_ok (N := N) (z := z + 4 + 4 + 4) (w := x4) (st := t3) ⟨by omega, by omega⟩
    obtain ⟨t5, e1, e2, e3⟩ := putWord_ok (N := N) (z := z + 4 + 4 + 4 + 4) (w := x5) (st := t4) ⟨by omega, by omega⟩
    obtain ⟨r', q1, q2, q3⟩ := feed_b42_ok (N := N) (x1 := x1) (x2 := x2) (x3 := x3) (x4 := x4) (x5 := x5) (t := z) (v := uP (uP (uP (uP (uP (fun _ => 0) 0 x1) 1 x2) 2 x3) 3 x4) 4 x5) ⟨hz.1, by omega⟩ N r 0 (by decide) (by decide) (by omega)
    refine ⟨z + 20, z + 20, t5, r', ?_, ?_, ⟨by omega, by omega⟩, fun k k0 k1 => ?_⟩
    · repeat (first | (with_reducible refine gd_ok ?_ ?_; focus (first | omega | assumption | ((repeat' refine And.intro ?_ ?_) <;> first | omega | assumption) | fail)) | (with_reducible refine ip_ok ?_ ?_; focus (first | omega | assumption | ((repeat' refine And.intro ?_ ?_) <;> first | omega | assumption) | fail)) | (with_reducible refine in_ok ?_ ?_; focus (first | omega | assumption | ((repeat' refine And.intro ?_ ?_) <;> first | omega | assumption) | fail)) | (rw [e, so_bd]; try dsimp only) | (rw [a1, so_bd]; try dsimp only) | (rw [b1, so_bd]; try dsimp only) | (rw [c1, so_bd]; try dsimp only) | (rw [d1, so_bd]; try dsimp only) | (rw [e1, so_bd]; try dsimp only) | (rw [so_bd]; try dsimp only))
      rw [show z + 4 + 4 + 4 + 4 + 4 = z + 20 by omega]
    · repeat (first | (with_reducible refine gd_ok ?_ ?_; focus (first | omega | assumption | ((repeat' refine And.intro ?_ ?_) <;> first | omega | assumption) | fail)) | (with_reducible refine ip_ok ?_ ?_; focus (first | omega | assumption | ((repeat' refine And.intro ?_ ?_) <;> first | omega | assumption) | fail)) | (with_reducible refine in_ok ?_ ?_; focus (first | omega | assumption | ((repeat' refine And.intro ?_ ?_) <;> first | omega | assumption) | fail)) | (rw [so_bd]; try dsimp only))
      exact q1
    · by_cases w : k < z
      · rw [e2 k (by omega), d2 k (by omega), c2 k (by omega), b2 k (by omega), a2 k w, q2 k (by omega)]
        exact hk k k0 w
      · obtain ⟨j, rfl⟩ : ∃ j, k = z + j := ⟨k - z, by omega⟩
        have key : t5 (z + j) = byt (uP (uP (uP (uP (uP (fun _ => 0) 0 x1) 1 x2) 2 x3) 3 x4) 4 x5 (j / 4)) (j % 4) := by
          rcases (by omega : j / 4 = 0 ∨ j / 4 = 1 ∨ j / 4 = 2 ∨ j / 4 = 3 ∨ j / 4 = 4) with w | w | w | w | w
          · rw [w, e2 _ (by omega), d2 _ (by omega), c2 _ (by omega), b2 _ (by omega), show z + j = z + (j % 4) by omega, a3 _ (by omega) (by omega)]
            rfl
          · rw [w, e2 _ (by omega), d2 _ (by omega), c2 _ (by omega), show z + j = z + 4 + (j % 4) by omega, b3 _ (by omega) (by omega)]
            rfl
          · rw [w, e2 _ (by omega), d2 _ (by omega), show z + j = z + 4 + 4 + (j % 4) by omega, c3 _ (by omega) (by omega)]
            rfl
          · rw [w, e2 _ (by omega), show z + j = z + 4 + 4 + 4 + (j % 4) by omega, d3 _ (by omega) (by omega)]
            rfl
          · rw [w, show z + j = z + 4 + 4 + 4 + 4 + (j % 4) by omega, e3 _ (by omega) (by omega)]
            rfl
        rw [key, q3 j (by omega) (by omega)]
        exact ⟨rfl, byt_in _ _⟩
  · have e : m_X1_takes N z 1600 20 = some 0 := by
      rw [m_X1_takes]
      repeat (first | (with_reducible refine gd_ok ?_ ?_; focus (first | omega | assumption | ((repeat' refine And.intro ?_ ?_) <;> first | omega | assumption) | fail)) | (with_reducible refine ip_ok ?_ ?_; focus (first | omega | assumption | ((repeat' refine And.intro ?_ ?_) <;> first | omega | assumption) | fail)) | (with_reducible refine in_ok ?_ ?_; focus (first | omega | assumption | ((repeat' refine And.intro ?_ ?_) <;> first | omega | assumption) | fail)) | (rw [so_bd]; try dsimp only))
      all_goals rfl
    refine ⟨-1, z, c, r, ?_, ?_, hz, hk⟩
    · repeat (first | (with_reducible refine gd_ok ?_ ?_; focus (first | omega | assumption | ((repeat' refine And.intro ?_ ?_) <;> first | omega | assumption) | fail)) | (with_reducible refine ip_ok ?_ ?_; focus (first | omega | assumption | ((repeat' refine And.intro ?_ ?_) <;> first | omega | assumption) | fail)) | (with_reducible refine in_ok ?_ ?_; focus (first | omega | assumption | ((repeat' refine And.intro ?_ ?_) <;> first | omega | assumption) | fail)) | (rw [e, so_bd]; try dsimp only) | (rw [so_bd]; try dsimp only))
      all_goals rfl
    · repeat (first | (with_reducible refine gd_ok ?_ ?_; focus (first | omega | assumption | ((repeat' refine And.intro ?_ ?_) <;> first | omega | assumption) | fail)) | (with_reducible refine ip_ok ?_ ?_; focus (first | omega | assumption | ((repeat' refine And.intro ?_ ?_) <;> first | omega | assumption) | fail)) | (with_reducible refine in_ok ?_ ?_; focus (first | omega | assumption | ((repeat' refine And.intro ?_ ?_) <;> first | omega | assumption) | fail)) | (rw [so_bd]; try dsimp only))
      all_goals rfl
theorem s_end {z : Int} {c r : Int → Int} (h : TpR z c r) {x1 : Int} (hx : rI x1) : ∃ a z', m_X12_end N z x1 = some (a, z') ∧ m_X13_end N z x1 = some (a, z') ∧ TpR z' c r := by
  obtain ⟨hz, hk⟩ := h
  rw [m_X12_end, m_X13_end]
  by_cases d : 0 ≤ x1 ∧ x1 ≤ z
  · have i1 := in1 (N := N) (v := x1) (lo := 0) (hi := z) (rI_L hx) ⟨by decide, by decide⟩ ⟨by omega, by omega⟩ d
    refine ⟨x1, x1, ?_, ?_, ⟨by omega, by omega⟩, fun k k0 k1 => hk k k0 (by omega)⟩
    · repeat (first | (with_reducible refine gd_ok ?_ ?_; focus (first | omega | assumption | ((repeat' refine And.intro ?_ ?_) <;> first | omega | assumption) | fail)) | (with_reducible refine ip_ok ?_ ?_; focus (first | omega | assumption | ((repeat' refine And.intro ?_ ?_) <;> first | omega | assumption) | fail)) | (with_reducible refine in_ok ?_ ?_; focus (first | omega | assumption | ((repeat' refine And.intro ?_ ?_) <;> first | omega | assumption) | fail)) | (rw [so_bd]; try dsimp only))
      all_goals rfl
    · repeat (first | (with_reducible refine gd_ok ?_ ?_; focus (first | omega | assumption | ((repeat' refine And.intro ?_ ?_) <;> first | omega | assumption) | fail)) | (with_reducible refine ip_ok ?_ ?_; focus (first | omega | assumption | ((repeat' refine And.intro ?_ ?_) <;> first | omega | assumption) | fail)) | (with_reducible refine in_ok ?_ ?_; focus (first | omega | assumption | ((repeat' refine And.intro ?_ ?_) <;> first | omega | assumption) | fail)) | (rw [i1, so_bd]; try dsimp only) | (rw [so_bd]; try dsimp only))
      all_goals rfl
  · have i1 := in0 (N := N) (v := x1) (lo := 0) (hi := z) (rI_L hx) ⟨by decide, by decide⟩ ⟨by omega, by omega⟩ d
    refine ⟨-1, z, ?_, ?_, hz, hk⟩
    · by_cases e : x1 < 0
      · repeat (first | (with_reducible refine gd_ok ?_ ?_; focus (first | omega | assumption | ((repeat' refine And.intro ?_ ?_) <;> first | omega | assumption) | fail)) | (with_reducible refine ip_ok ?_ ?_; focus (first | omega | assumption | ((repeat' refine And.intro ?_ ?_) <;> first | omega | assumption) | fail)) | (with_reducible refine in_ok ?_ ?_; focus (first | omega | assumption | ((repeat' refine And.intro ?_ ?_) <;> first | omega | assumption) | fail)) | (rw [so_bd]; try dsimp only))
        all_goals rfl
      · repeat (first | (with_reducible refine gd_ok ?_ ?_; focus (first | omega | assumption | ((repeat' refine And.intro ?_ ?_) <;> first | omega | assumption) | fail)) | (with_reducible refine ip_ok ?_ ?_; focus (first | omega | assumption | ((repeat' refine And.intro ?_ ?_) <;> first | omega | assumption) | fail)) | (with_reducible refine in_ok ?_ ?_; focus (first | omega | assumption | ((repeat' refine And.intro ?_ ?_) <;> first | omega | assumption) | fail)) | (rw [so_bd]; try dsimp only))
        all_goals rfl
    · repeat (first | (with_reducible refine gd_ok ?_ ?_; focus (first | omega | assumption | ((repeat' refine And.intro ?_ ?_) <;> first | omega | assumption) | fail)) | (with_reducible refine ip_ok ?_ ?_; focus (first | omega | assumption | ((repeat' refine And.intro ?_ ?_) <;> first | omega | assumption) | fail)) | (with_reducible refine in_ok ?_ ?_; focus (first | omega | assumption | ((repeat' refine And.intro ?_ ?_) <;> first | omega | assumption) | fail)) | (rw [i1, so_bd]; try dsimp only) | (rw [so_bd]; try dsimp only))
      all_goals rfl
theorem s_fault {k p x1 : Int} : m_X12_fault N k p x1 = m_X13_fault N k p x1 := rfl
theorem s_fault' {k p x1 : Int} (hx : rI x1) : ∃ a, m_X12_fault N k p x1 = some a ∧ m_X13_fault N k p x1 = some a := by
  rw [m_X12_fault, m_X13_fault]
  by_cases c : x1 = 0
  · exact ⟨k, by
      repeat (first | (with_reducible refine gd_ok ?_ ?_; focus (first | omega | assumption | ((repeat' refine And.intro ?_ ?_) <;> first | omega | assumption) | fail)) | (with_reducible refine ip_ok ?_ ?_; focus (first | omega | assumption | ((repeat' refine And.intro ?_ ?_) <;> first | omega | assumption) | fail)) | (with_reducible refine in_ok ?_ ?_; focus (first | omega | assumption | ((repeat' refine And.intro ?_ ?_) <;> first | omega | assumption) | fail)) | (rw [so_bd]; try dsimp only))
      rfl, by
      repeat (first | (with_reducible refine gd_ok ?_ ?_; focus (first | omega | assumption | ((repeat' refine And.intro ?_ ?_) <;> first | omega | assumption) | fail)) | (with_reducible refine ip_ok ?_ ?_; focus (first | omega | assumption | ((repeat' refine And.intro ?_ ?_) <;> first | omega | assumption) | fail)) | (with_reducible refine in_ok ?_ ?_; focus (first | omega | assumption | ((repeat' refine And.intro ?_ ?_) <;> first | omega | assumption) | fail)) | (rw [so_bd]; try dsimp only))
      rfl⟩
  · by_cases d : x1 = 1
    · exact ⟨p, by
        repeat (first | (with_reducible refine gd_ok ?_ ?_; focus (first | omega | assumption | ((repeat' refine And.intro ?_ ?_) <;> first | omega | assumption) | fail)) | (with_reducible refine ip_ok ?_ ?_; focus (first | omega | assumption | ((repeat' refine And.intro ?_ ?_) <;> first | omega | assumption) | fail)) | (with_reducible refine in_ok ?_ ?_; focus (first | omega | assumption | ((repeat' refine And.intro ?_ ?_) <;> first | omega | assumption) | fail)) | (rw [so_bd]; try dsimp only))
        rfl, by
        repeat (first | (with_reducible refine gd_ok ?_ ?_; focus (first | omega | assumption | ((repeat' refine And.intro ?_ ?_) <;> first | omega | assumption) | fail)) | (with_reducible refine ip_ok ?_ ?_; focus (first | omega | assumption | ((repeat' refine And.intro ?_ ?_) <;> first | omega | assumption) | fail)) | (with_reducible refine in_ok ?_ ?_; focus (first | omega | assumption | ((repeat' refine And.intro ?_ ?_) <;> first | omega | assumption) | fail)) | (rw [so_bd]; try dsimp only))
        rfl⟩
    · exact ⟨-1, by
        repeat (first | (with_reducible refine gd_ok ?_ ?_; focus (first | omega | assumption | ((repeat' refine And.intro ?_ ?_) <;> first | omega | assumption) | fail)) | (with_reducible refine ip_ok ?_ ?_; focus (first | omega | assumption | ((repeat' refine And.intro ?_ ?_) <;> first | omega | assumption) | fail)) | (with_reducible refine in_ok ?_ ?_; focus (first | omega | assumption | ((repeat' refine And.intro ?_ ?_) <;> first | omega | assumption) | fail)) | (rw [so_bd]; try dsimp only))
        rfl, by
        repeat (first | (with_reducible refine gd_ok ?_ ?_; focus (first | omega | assumption | ((repeat' refine And.intro ?_ ?_) <;> first | omega | assumption) | fail)) | (with_reducible refine ip_ok ?_ ?_; focus (first | omega | assumption | ((repeat' refine And.intro ?_ ?_) <;> first | omega | assumption) | fail)) | (with_reducible refine in_ok ?_ ?_; focus (first | omega | assumption | ((repeat' refine And.intro ?_ ?_) <;> first | omega | assumption) | fail)) | (rw [so_bd]; try dsimp only))
        rfl⟩
/-- what was told -/
def OuR (z : Int) (c r : Int → Int) : Prop := (0 ≤ z ∧ z ≤ 1080) ∧ ∀ k, 0 ≤ k → k < z → c k = r k
theorem s_octet {z : Int} {c r : Int → Int} (h : OuR z c r) {x1 : Int} (hx : rI x1) : ∃ a, m_X12_octet N z c x1 = some a ∧ m_X13_octet N z r x1 = some a := by
  obtain ⟨hz, hk⟩ := h
  rw [m_X12_octet, m_X13_octet]
  by_cases d : 0 ≤ x1 ∧ x1 < z
  · have i1 := in1 (N := N) (v := x1) (lo := 0) (hi := z - 1) (rI_L hx) ⟨by decide, by decide⟩ ⟨by omega, by omega⟩ ⟨by omega, by omega⟩
    refine ⟨c x1, ?_, ?_⟩
    · repeat (first | (with_reducible refine gd_ok ?_ ?_; focus (first | omega | assumption | ((repeat' refine And.intro ?_ ?_) <;> first | omega | assumption) | fail)) | (with_reducible refine ip_ok ?_ ?_; focus (first | omega | assumption | ((repeat' refine And.intro ?_ ?_) <;> first | omega | assumption) | fail)) | (with_reducible refine in_ok ?_ ?_; focus (first | omega | assumption | ((repeat' refine And.intro ?_ ?_) <;> first | omega | assumption) | fail)) | (rw [so_bd]; try dsimp only))
      all_goals rfl
    · rw [← hk x1 d.1 d.2]
      repeat (first | (with_reducible refine gd_ok ?_ ?_; focus (first | omega | assumption | ((repeat' refine And.intro ?_ ?_) <;> first | omega | assumption) | fail)) | (with_reducible refine ip_ok ?_ ?_; focus (first | omega | assumption | ((repeat' refine And.intro ?_ ?_) <;> first | omega | assumption) | fail)) | (with_reducible refine in_ok ?_ ?_; focus (first | omega | assumption | ((repeat' refine And.intro ?_ ?_) <;> first | omega | assumption) | fail)) | (rw [i1, so_bd]; try dsimp only) | (rw [so_bd]; try dsimp only))
      all_goals rfl
  · have i1 := in0 (N := N) (v := x1) (lo := 0) (hi := z - 1) (rI_L hx) ⟨by decide, by decide⟩ ⟨by omega, by omega⟩ (by omega)
    refine ⟨-1, ?_, ?_⟩
    · by_cases e : x1 < 0
      · repeat (first | (with_reducible refine gd_ok ?_ ?_; focus (first | omega | assumption | ((repeat' refine And.intro ?_ ?_) <;> first | omega | assumption) | fail)) | (with_reducible refine ip_ok ?_ ?_; focus (first | omega | assumption | ((repeat' refine And.intro ?_ ?_) <;> first | omega | assumption) | fail)) | (with_reducible refine in_ok ?_ ?_; focus (first | omega | assumption | ((repeat' refine And.intro ?_ ?_) <;> first | omega | assumption) | fail)) | (rw [so_bd]; try dsimp only))
        all_goals rfl
      · repeat (first | (with_reducible refine gd_ok ?_ ?_; focus (first | omega | assumption | ((repeat' refine And.intro ?_ ?_) <;> first | omega | assumption) | fail)) | (with_reducible refine ip_ok ?_ ?_; focus (first | omega | assumption | ((repeat' refine And.intro ?_ ?_) <;> first | omega | assumption) | fail)) | (with_reducible refine in_ok ?_ ?_; focus (first | omega | assumption | ((repeat' refine And.intro ?_ ?_) <;> first | omega | assumption) | fail)) | (rw [so_bd]; try dsimp only))
        all_goals rfl
    · repeat (first | (with_reducible refine gd_ok ?_ ?_; focus (first | omega | assumption | ((repeat' refine And.intro ?_ ?_) <;> first | omega | assumption) | fail)) | (with_reducible refine ip_ok ?_ ?_; focus (first | omega | assumption | ((repeat' refine And.intro ?_ ?_) <;> first | omega | assumption) | fail)) | (with_reducible refine in_ok ?_ ?_; focus (first | omega | assumption | ((repeat' refine And.intro ?_ ?_) <;> first | omega | assumption) | fail)) | (rw [i1, so_bd]; try dsimp only) | (rw [so_bd]; try dsimp only))
      all_goals rfl
theorem isScore1 {c : Int} (h : 0 ≤ c ∧ c < 1000) : m_X12_isScore N c = some 1 ∧ m_X13_isScore N c = some 1 := by
  constructor
  · rw [m_X12_isScore]
    repeat (first | (with_reducible refine gd_ok ?_ ?_; focus (first | omega | assumption | ((repeat' refine And.intro ?_ ?_) <;> first | omega | assumption) | fail)) | (with_reducible refine ip_ok ?_ ?_; focus (first | omega | assumption | ((repeat' refine And.intro ?_ ?_) <;> first | omega | assumption) | fail)) | (with_reducible refine in_ok ?_ ?_; focus (first | omega | assumption | ((repeat' refine And.intro ?_ ?_) <;> first | omega | assumption) | fail)) | (rw [so_bd]; try dsimp only))
    all_goals rfl
  · rw [m_X13_isScore]
    repeat (first | (with_reducible refine gd_ok ?_ ?_; focus (first | omega | assumption | ((repeat' refine And.intro ?_ ?_) <;> first | omega | assumption) | fail)) | (with_reducible refine ip_ok ?_ ?_; focus (first | omega | assumption | ((repeat' refine And.intro ?_ ?_) <;> first | omega | assumption) | fail)) | (with_reducible refine in_ok ?_ ?_; focus (first | omega | assumption | ((repeat' refine And.intro ?_ ?_) <;> first | omega | assumption) | fail)) | (rw [in1 (N := N) (v := c) (lo := 0) (hi := 999) ⟨by omega, by omega⟩ ⟨by decide, by decide⟩ ⟨by decide, by decide⟩ ⟨by omega, by omega⟩, so_bd]; try dsimp only) | (rw [so_bd]; try dsimp only))
    all_goals rfl
theorem isScore0 {c : Int} (hr : rI c) (h : ¬ (0 ≤ c ∧ c < 1000)) : m_X12_isScore N c = some 0 ∧ m_X13_isScore N c = some 0 := by
  constructor
  · rw [m_X12_isScore]
    by_cases e : c < 0
    · repeat (first | (with_reducible refine gd_ok ?_ ?_; focus (first | omega | assumption | ((repeat' refine And.intro ?_ ?_) <;> first | omega | assumption) | fail)) | (with_reducible refine ip_ok ?_ ?_; focus (first | omega | assumption | ((repeat' refine And.intro ?_ ?_) <;> first | omega | assumption) | fail)) | (with_reducible refine in_ok ?_ ?_; focus (first | omega | assumption | ((repeat' refine And.intro ?_ ?_) <;> first | omega | assumption) | fail)) | (rw [so_bd]; try dsimp only))
      all_goals rfl
    · repeat (first | (with_reducible refine gd_ok ?_ ?_; focus (first | omega | assumption | ((repeat' refine And.intro ?_ ?_) <;> first | omega | assumption) | fail)) | (with_reducible refine ip_ok ?_ ?_; focus (first | omega | assumption | ((repeat' refine And.intro ?_ ?_) <;> first | omega | assumption) | fail)) | (with_reducible refine in_ok ?_ ?_; focus (first | omega | assumption | ((repeat' refine And.intro ?_ ?_) <;> first | omega | assumption) | fail)) | (rw [so_bd]; try dsimp only))
      all_goals rfl
  · rw [m_X13_isScore]
    repeat (first | (with_reducible refine gd_ok ?_ ?_; focus (first | omega | assumption | ((repeat' refine And.intro ?_ ?_) <;> first | omega | assumption) | fail)) | (with_reducible refine ip_ok ?_ ?_; focus (first | omega | assumption | ((repeat' refine And.intro ?_ ?_) <;> first | omega | assumption) | fail)) | (with_reducible refine in_ok ?_ ?_; focus (first | omega | assumption | ((repeat' refine And.intro ?_ ?_) <;> first | omega | assumption) | fail)) | (rw [in0 (N := N) (v := c) (lo := 0) (hi := 999) (rI_L hr) ⟨by decide, by decide⟩ ⟨by decide, by decide⟩ (by omega), so_bd]; try dsimp only) | (rw [so_bd]; try dsimp only))
    all_goals rfl
theorem s_open {op stt : Int → Int} (hop : ∀ s, 0 ≤ s → s < 1000 → stt (2000 + s) = op s) {x1 : Int} (hx : rI x1) : ∃ a, m_X12_open N op x1 = some a ∧ m_X13_open N stt x1 = some a := by
  rw [m_X12_open, m_X13_open]
  by_cases d : 0 ≤ x1 ∧ x1 < 1000
  · have e := isScore1 (N := N) d
    refine ⟨op x1, ?_, ?_⟩
    · repeat (first | (with_reducible refine gd_ok ?_ ?_; focus (first | omega | assumption | ((repeat' refine And.intro ?_ ?_) <;> first | omega | assumption) | fail)) | (with_reducible refine ip_ok ?_ ?_; focus (first | omega | assumption | ((repeat' refine And.intro ?_ ?_) <;> first | omega | assumption) | fail)) | (with_reducible refine in_ok ?_ ?_; focus (first | omega | assumption | ((repeat' refine And.intro ?_ ?_) <;> first | omega | assumption) | fail)) | (rw [e.1, so_bd]; try dsimp only) | (rw [so_bd]; try dsimp only))
      all_goals rfl
    · rw [← hop x1 d.1 d.2]
      repeat (first | (with_reducible refine gd_ok ?_ ?_; focus (first | omega | assumption | ((repeat' refine And.intro ?_ ?_) <;> first | omega | assumption) | fail)) | (with_reducible refine ip_ok ?_ ?_; focus (first | omega | assumption | ((repeat' refine And.intro ?_ ?_) <;> first | omega | assumption) | fail)) | (with_reducible refine in_ok ?_ ?_; focus (first | omega | assumption | ((repeat' refine And.intro ?_ ?_) <;> first | omega | assumption) | fail)) | (rw [e.2, so_bd]; try dsimp only) | (rw [so_bd]; try dsimp only))
      all_goals rfl
  · have e := isScore0 (N := N) hx d
    refine ⟨-2, ?_, ?_⟩
    · repeat (first | (with_reducible refine gd_ok ?_ ?_; focus (first | omega | assumption | ((repeat' refine And.intro ?_ ?_) <;> first | omega | assumption) | fail)) | (with_reducible refine ip_ok ?_ ?_; focus (first | omega | assumption | ((repeat' refine And.intro ?_ ?_) <;> first | omega | assumption) | fail)) | (with_reducible refine in_ok ?_ ?_; focus (first | omega | assumption | ((repeat' refine And.intro ?_ ?_) <;> first | omega | assumption) | fail)) | (rw [e.1, so_bd]; try dsimp only) | (rw [so_bd]; try dsimp only))
      all_goals rfl
    · repeat (first | (with_reducible refine gd_ok ?_ ?_; focus (first | omega | assumption | ((repeat' refine And.intro ?_ ?_) <;> first | omega | assumption) | fail)) | (with_reducible refine ip_ok ?_ ?_; focus (first | omega | assumption | ((repeat' refine And.intro ?_ ?_) <;> first | omega | assumption) | fail)) | (with_reducible refine in_ok ?_ ?_; focus (first | omega | assumption | ((repeat' refine And.intro ?_ ?_) <;> first | omega | assumption) | fail)) | (rw [e.2, so_bd]; try dsimp only) | (rw [so_bd]; try dsimp only))
      all_goals rfl
theorem month_b25_ok {samp : Int → Int} {k : Int} (hk : 0 ≤ k ∧ k < 12) : ∀ (f : Nat) (mp : Int → Int) (y : Int), 0 ≤ y → y ≤ 1000 → (1000 - y).toNat < f → ∃ mp', m_X13_month_b25 N samp k f mp y = some (k + 1 - 1, k + 1, mp') ∧ (∀ j, j < 1000 * k + y → mp' j = mp j) ∧ ∀ s, y ≤ s → s < 1000 → mp' (1000 * k + s) = samp s := by
  intro f
  induction f with
  | zero => intro mp y _ _ h; omega
  | succ f ih =>
    intro mp y h0 h1 hf
    rw [m_X13_month_b25]
    by_cases c : 1000 ≤ y
    · refine ⟨mp, ?_, fun j _ => rfl, fun s s0 s1 => by omega⟩
      repeat (first | (with_reducible refine gd_ok ?_ ?_; focus (first | omega | assumption | ((repeat' refine And.intro ?_ ?_) <;> first | omega | assumption) | fail)) | (with_reducible refine ip_ok ?_ ?_; focus (first | omega | assumption | ((repeat' refine And.intro ?_ ?_) <;> first | omega | assumption) | fail)) | (with_reducible refine in_ok ?_ ?_; focus (first | omega | assumption | ((repeat' refine And.intro ?_ ?_) <;> first | omega | assumption) | fail)) | (rw [so_bd]; try dsimp only))
      all_goals rfl
    · obtain ⟨mp', q1, q2, q3⟩ := ih (uP mp (1000 * k + y) (samp y)) (y + 1) (by omega) (by omega) (by omega)
      refine ⟨mp', ?_, fun j hj => ?_, fun s s0 s1 => ?_⟩
      · repeat (first | (with_reducible refine gd_ok ?_ ?_; focus (first | omega | assumption | ((repeat' refine And.intro ?_ ?_) <;> first | omega | assumption) | fail)) | (with_reducible refine ip_ok ?_ ?_; focus (first | omega | assumption | ((repeat' refine And.intro ?_ ?_) <;> first | omega | assumption) | fail)) | (with_reducible refine in_ok ?_ ?_; focus (first | omega | assumption | ((repeat' refine And.intro ?_ ?_) <;> first | omega | assumption) | fail)) | (rw [so_bd]; try dsimp only))
        exact q1
      · rw [q2 j (by omega), uP_o _ _ (by omega)]
      · by_cases e : s = y
        · rw [e, q2 _ (by omega), uP_s]
        · exact q3 s (by omega) s1
theorem SmR.mv {S : SM} {a : Nat} {p p' : Int → Int} {x x' : Int} (h : SmR S a p x) (e : ∀ s, 0 ≤ s → s < 1000 → p' (x' + s) = p (x + s)) : SmR S a p' x' := ⟨h.1, h.2.1, h.2.2.1, h.2.2.2.1, fun s s0 s1 => (e s s0 s1).trans (h.2.2.2.2 s s0 s1)⟩
theorem s_month (hN : 40000 ≤ N) {S : SM} {la : Nat} {samp mp : Int → Int} {mt : Int → Nat} {k : Int} (hk : 0 ≤ k ∧ k ≤ 12) (hsm : SmR S la samp 0) (hmr : MoR S mt mp k) (hmz : ∀ i, 0 ≤ i → i < k → ¬ smTotal S (mt i) = 0) : ∃ a k' mt' mp', m_X12_month N S la k mt = some (a, k', mt') ∧ m_X13_month N samp k mp = some (a, k', mp') ∧ (0 ≤ k' ∧ k' ≤ 12) ∧ MoR S mt' mp' k' ∧ ∀ i, 0 ≤ i → i < k' → ¬ smTotal S (mt' i) = 0 := by
  have t := hsm.tot
  have h1 := hsm.1
  have e1 := casesOf_ok (N := N) hN (n := 1000) (x := 0) ⟨by decide, by decide⟩ hsm
  rw [m_X12_month, m_X13_month]
  by_cases c : k = 12
  · refine ⟨-5, k, mt, mp, ?_, ?_, hk, hmr, hmz⟩
    · repeat (first | (with_reducible refine gd_ok ?_ ?_; focus (first | omega | assumption | ((repeat' refine And.intro ?_ ?_) <;> first | omega | assumption) | fail)) | (with_reducible refine ip_ok ?_ ?_; focus (first | omega | assumption | ((repeat' refine And.intro ?_ ?_) <;> first | omega | assumption) | fail)) | (with_reducible refine in_ok ?_ ?_; focus (first | omega | assumption | ((repeat' refine And.intro ?_ ?_) <;> first | omega | assumption) | fail)) | (rw [so_bd]; try dsimp only))
      all_goals rfl
    · repeat (first | (with_reducible refine gd_ok ?_ ?_; focus (first | omega | assumption | ((repeat' refine And.intro ?_ ?_) <;> first | omega | assumption) | fail)) | (with_reducible refine ip_ok ?_ ?_; focus (first | omega | assumption | ((repeat' refine And.intro ?_ ?_) <;> first | omega | assumption) | fail)) | (with_reducible refine in_ok ?_ ?_; focus (first | omega | assumption | ((repeat' refine And.intro ?_ ?_) <;> first | omega | assumption) | fail)) | (rw [so_bd]; try dsimp only))
      all_goals rfl
  · by_cases d : smTotal S la = 0
    · refine ⟨-5, k, mt, mp, ?_, ?_, hk, hmr, hmz⟩
      · repeat (first | (with_reducible refine gd_ok ?_ ?_; focus (first | omega | assumption | ((repeat' refine And.intro ?_ ?_) <;> first | omega | assumption) | fail)) | (with_reducible refine ip_ok ?_ ?_; focus (first | omega | assumption | ((repeat' refine And.intro ?_ ?_) <;> first | omega | assumption) | fail)) | (with_reducible refine in_ok ?_ ?_; focus (first | omega | assumption | ((repeat' refine And.intro ?_ ?_) <;> first | omega | assumption) | fail)) | (rw [so_bd]; try dsimp only))
        all_goals rfl
      · repeat (first | (with_reducible refine gd_ok ?_ ?_; focus (first | omega | assumption | ((repeat' refine And.intro ?_ ?_) <;> first | omega | assumption) | fail)) | (with_reducible refine ip_ok ?_ ?_; focus (first | omega | assumption | ((repeat' refine And.intro ?_ ?_) <;> first | omega | assumption) | fail)) | (with_reducible refine in_ok ?_ ?_; focus (first | omega | assumption | ((repeat' refine And.intro ?_ ?_) <;> first | omega | assumption) | fail)) | (rw [e1, so_bd]; try dsimp only) | (rw [so_bd]; try dsimp only))
        all_goals rfl
    · obtain ⟨mp', q1, q2, q3⟩ := month_b25_ok (N := N) (samp := samp) (k := k) ⟨hk.1, by omega⟩ N mp 0 (by decide) (by decide) (by omega)
      refine ⟨k + 1 - 1, k + 1, uP mt k la, mp', ?_, ?_, ⟨by omega, by omega⟩, fun i i0 i1 => ?_, fun i i0 i1 => ?_⟩
      · repeat (first | (with_reducible refine gd_ok ?_ ?_; focus (first | omega | assumption | ((repeat' refine And.intro ?_ ?_) <;> first | omega | assumption) | fail)) | (with_reducible refine ip_ok ?_ ?_; focus (first | omega | assumption | ((repeat' refine And.intro ?_ ?_) <;> first | omega | assumption) | fail)) | (with_reducible refine in_ok ?_ ?_; focus (first | omega | assumption | ((repeat' refine And.intro ?_ ?_) <;> first | omega | assumption) | fail)) | (rw [so_bd]; try dsimp only))
        all_goals rfl
      · repeat (first | (with_reducible refine gd_ok ?_ ?_; focus (first | omega | assumption | ((repeat' refine And.intro ?_ ?_) <;> first | omega | assumption) | fail)) | (with_reducible refine ip_ok ?_ ?_; focus (first | omega | assumption | ((repeat' refine And.intro ?_ ?_) <;> first | omega | assumption) | fail)) | (with_reducible refine in_ok ?_ ?_; focus (first | omega | assumption | ((repeat' refine And.intro ?_ ?_) <;> first | omega | assumption) | fail)) | (rw [e1, so_bd]; try dsimp only) | (rw [so_bd]; try dsimp only))
        exact q1
      · by_cases e : i = k
        · rw [e, uP_s]
          exact hsm.mv (fun s s0 s1 => by rw [q3 s s0 s1, Int.zero_add])
        · rw [uP_o _ _ e]
          exact (hmr i i0 (by omega)).mv (fun s s0 s1 => q2 _ (by omega))
      · by_cases e : i = k
        · rw [e, uP_s]; exact d
        · rw [uP_o _ _ e]; exact hmz i i0 (by omega)
end
section
variable {N : Nat} {g b : Int → Int}
theorem rows_sum {f W : Int → Int} (hf : ∀ s, 0 ≤ s → s < 1000 → ¬ 0 < g s + b s → f s = 0) {k : Int} (hk : 0 ≤ k) : k ≤ 1000 → sI (fun s => W s * f s) k = sI (fun i => W (cs g b i) * f (cs g b i)) (lb g b k) := by
  refine up_ind (P := fun k => k ≤ 1000 → sI (fun s => W s * f s) k = sI (fun i => W (cs g b i) * f (cs g b i)) (lb g b k)) (fun _ => rfl) (fun k h ih => ?_) k hk
  intro h1
  have ih := ih (by omega)
  have l0 := lb_in (g := g) (b := b) (c := k) (by omega)
  rcases lb_s (g := g) (b := b) (c := k) ⟨h, by omega⟩ with ⟨a1, a2, a3⟩ | ⟨a1, -⟩
  · rw [a3, sI_s _ h, sI_s _ l0.1, ih, a2]
  · have z : f k = 0 := hf k h (by omega) (fun p => by
      obtain ⟨i, i0, i1, i2⟩ := cs_ex (g := g) (b := b) h (by omega) p
      have q1 := lb_lt (g := g) (b := b) (c := k) (i := i) ⟨h, by omega⟩ i0 i1
      have q2 := lb_lt (g := g) (b := b) (c := k + 1) (i := i) ⟨by omega, by omega⟩ i0 i1
      omega)
    rw [a1, sI_s _ h, ih, z, Int.mul_zero, Int.add_zero]
end
