/-! the reader: from the start -/
section
variable {N : Nat} {z : Int} {c r : Int → Int}
theorem fl2 {x1 fk fp ra ln at_ bg tk va bd : Int} {it rr : Int → Int} : ∀ (f : Nat) (rd : Int → Int) (y : Int), 0 ≤ y → y ≤ 3000 → (3000 - y).toNat < f → ∃ rd', m_X13_reads_b2 N r x1 z fk fp ra ln at_ bg tk va bd it rr f rd y = m_X13_reads_b24 N r x1 z fk fp ra ln at_ bg tk va bd rd' rr N it 0 ∧ (∀ j, y ≤ j → j < 3000 → rd' j = 0) ∧ (∀ j, j < y → rd' j = rd j) := by
  intro f
  induction f with
  | zero => intro rd y _ _ h; omega
  | succ f ih =>
    intro rd y y0 y1 hf
    by_cases w : y = 3000
    · refine ⟨rd, ?_, by omega, fun _ _ => rfl⟩
      rw [m_X13_reads_b2]
      repeat (first | (with_reducible refine gd_ok ?_ ?_; focus (first | omega | assumption | ((repeat' refine And.intro ?_ ?_) <;> first | omega | assumption) | fail)) | (with_reducible refine ip_ok ?_ ?_; focus (first | omega | assumption | ((repeat' refine And.intro ?_ ?_) <;> first | omega | assumption) | fail)) | (with_reducible refine in_ok ?_ ?_; focus (first | omega | assumption | ((repeat' refine And.intro ?_ ?_) <;> first | omega | assumption) | fail)) | (rw [so_bd]; try dsimp only))
      all_goals rfl
    · obtain ⟨rd', p1, p2, p3⟩ := ih (uP rd y 0) (y + 1) (by omega) (by omega) (by omega)
      refine ⟨rd', ?_, fun j j0 j1 => ?_, fun j j0 => ?_⟩
      · rw [← p1, m_X13_reads_b2]
        repeat (first | (with_reducible refine gd_ok ?_ ?_; focus (first | omega | assumption | ((repeat' refine And.intro ?_ ?_) <;> first | omega | assumption) | fail)) | (with_reducible refine ip_ok ?_ ?_; focus (first | omega | assumption | ((repeat' refine And.intro ?_ ?_) <;> first | omega | assumption) | fail)) | (with_reducible refine in_ok ?_ ?_; focus (first | omega | assumption | ((repeat' refine And.intro ?_ ?_) <;> first | omega | assumption) | fail)) | (rw [so_bd]; try dsimp only))
        all_goals rfl
      · by_cases e : j = y
        · rw [e, p3 y (by omega), uP_s]
        · exact p2 j (by omega) j1
      · rw [p3 j (by omega), uP_o _ _ (by omega)]
theorem fl24 {x1 fk fp ra ln at_ bg tk va bd : Int} {rd rr : Int → Int} : ∀ (f : Nat) (it : Int → Int) (y : Int), 0 ≤ y → y ≤ 1000 → (1000 - y).toNat < f → ∃ it', m_X13_reads_b24 N r x1 z fk fp ra ln at_ bg tk va bd rd rr f it y = m_X13_reads_b46 N r x1 z fk fp ra ln at_ bg tk va bd rd it' N rr 0 ∧ (∀ j, y ≤ j → j < 1000 → it' j = 0) ∧ (∀ j, j < y → it' j = it j) := by
  intro f
  induction f with
  | zero => intro it y _ _ h; omega
  | succ f ih =>
    intro it y y0 y1 hf
    by_cases w : y = 1000
    · refine ⟨it, ?_, by omega, fun _ _ => rfl⟩
      rw [m_X13_reads_b24]
      repeat (first | (with_reducible refine gd_ok ?_ ?_; focus (first | omega | assumption | ((repeat' refine And.intro ?_ ?_) <;> first | omega | assumption) | fail)) | (with_reducible refine ip_ok ?_ ?_; focus (first | omega | assumption | ((repeat' refine And.intro ?_ ?_) <;> first | omega | assumption) | fail)) | (with_reducible refine in_ok ?_ ?_; focus (first | omega | assumption | ((repeat' refine And.intro ?_ ?_) <;> first | omega | assumption) | fail)) | (rw [so_bd]; try dsimp only))
      all_goals rfl
    · obtain ⟨it', p1, p2, p3⟩ := ih (uP it y 0) (y + 1) (by omega) (by omega) (by omega)
      refine ⟨it', ?_, fun j j0 j1 => ?_, fun j j0 => ?_⟩
      · rw [← p1, m_X13_reads_b24]
        repeat (first | (with_reducible refine gd_ok ?_ ?_; focus (first | omega | assumption | ((repeat' refine And.intro ?_ ?_) <;> first | omega | assumption) | fail)) | (with_reducible refine ip_ok ?_ ?_; focus (first | omega | assumption | ((repeat' refine And.intro ?_ ?_) <;> first | omega | assumption) | fail)) | (with_reducible refine in_ok ?_ ?_; focus (first | omega | assumption | ((repeat' refine And.intro ?_ ?_) <;> first | omega | assumption) | fail)) | (rw [so_bd]; try dsimp only))
        all_goals rfl
      · by_cases e : j = y
        · rw [e, p3 y (by omega), uP_s]
        · exact p2 j (by omega) j1
      · rw [p3 j (by omega), uP_o _ _ (by omega)]
theorem fl46 {x1 fk fp ra ln at_ bg tk va bd e s k w : Int} {rd it : Int → Int} (hn : m_X13_next N z r 0 bg tk va = some (e, s, k, w)) : ∀ (f : Nat) (rr : Int → Int) (y : Int), 0 ≤ y → y ≤ 5 → (5 - y).toNat < f → ∃ rr', m_X13_reads_b46 N r x1 z fk fp ra ln at_ bg tk va bd rd it f rr y = m_X13_reads_b98 N r x1 z N 0 (-1) 0 0 e s k w 0 rd it rr' ∧ (∀ j, y ≤ j → j < 5 → rr' j = -1) ∧ (∀ j, j < y → rr' j = rr j) := by
  intro f
  induction f with
  | zero => intro rr y _ _ h; omega
  | succ f ih =>
    intro rr y y0 y1 hf
    by_cases w : y = 5
    · refine ⟨rr, ?_, by omega, fun _ _ => rfl⟩
      rw [m_X13_reads_b46]
      repeat (first | (with_reducible refine gd_ok ?_ ?_; focus (first | omega | assumption | ((repeat' refine And.intro ?_ ?_) <;> first | omega | assumption) | fail)) | (with_reducible refine ip_ok ?_ ?_; focus (first | omega | assumption | ((repeat' refine And.intro ?_ ?_) <;> first | omega | assumption) | fail)) | (with_reducible refine in_ok ?_ ?_; focus (first | omega | assumption | ((repeat' refine And.intro ?_ ?_) <;> first | omega | assumption) | fail)) | (rw [hn, so_bd]; try dsimp only) | (rw [so_bd]; try dsimp only))
      all_goals rfl
    · obtain ⟨rr', p1, p2, p3⟩ := ih (uP rr y (-1)) (y + 1) (by omega) (by omega) (by omega)
      refine ⟨rr', ?_, fun j j0 j1 => ?_, fun j j0 => ?_⟩
      · rw [← p1, m_X13_reads_b46]
        repeat (first | (with_reducible refine gd_ok ?_ ?_; focus (first | omega | assumption | ((repeat' refine And.intro ?_ ?_) <;> first | omega | assumption) | fail)) | (with_reducible refine ip_ok ?_ ?_; focus (first | omega | assumption | ((repeat' refine And.intro ?_ ?_) <;> first | omega | assumption) | fail)) | (with_reducible refine in_ok ?_ ?_; focus (first | omega | assumption | ((repeat' refine And.intro ?_ ?_) <;> first | omega | assumption) | fail)) | (rw [so_bd]; try dsimp only))
        all_goals rfl
      · by_cases e : j = y
        · rw [e, p3 y (by omega), uP_s]
        · exact p2 j (by omega) j1
      · rw [p3 j (by omega), uP_o _ _ (by omega)]
theorem b_reads (hN : 40000 ≤ N) (h : TpR z c r) {x1 x2 : Int} (hx : (x2 = 0 ∧ x1 = 1) ∨ (x2 = 1 ∧ x1 = 0)) {ats ln le mo fk fp tl k s e v fk' fp' ra ln' at_ bg tk va bd : Int} {sc go ba op co rd it rr : Int → Int} : AllR N z c r (m_X7_readAll N z c 1600 ats ln le mo fk fp tl k s e v sc go ba op co x2) (m_X13_reads N r z fk' fp' ra ln' at_ bg tk va bd rd it rr x1) := by
  obtain ⟨hz, hk⟩ := id h
  obtain ⟨k1, s1, e1, v1, w1, o1, o2, t1, t2, t3, t4, t5, t6, t7, t8, t9, t10⟩ := token (N := N) hN h (ki := k) (st := s) (nu := v) (be := bg) (to := tk) (va := va) (a := 0) (by omega) (by omega)
  obtain ⟨rd', p1, p2, -⟩ := fl2 (N := N) (z := z) (r := r) (x1 := x1) (fk := fk') (fp := fp') (ra := ra) (ln := ln') (at_ := at_) (bg := bg) (tk := tk) (va := va) (bd := bd) (it := it) (rr := rr) N rd 0 (by omega) (by omega) (by omega)
  obtain ⟨it', q1, q2, -⟩ := fl24 (N := N) (z := z) (r := r) (x1 := x1) (fk := fk') (fp := fp') (ra := ra) (ln := ln') (at_ := at_) (bg := bg) (tk := tk) (va := va) (bd := bd) (rd := rd') (rr := rr) N it 0 (by omega) (by omega) (by omega)
  obtain ⟨rr', u1, u2, -⟩ := fl46 (N := N) (z := z) (r := r) (x1 := x1) (fk := fk') (fp := fp') (ra := ra) (ln := ln') (at_ := at_) (bd := bd) (rd := rd') (it := it') o2 N rr 0 (by omega) (by omega) (by omega)
  rw [m_X13_reads, p1, q1, u1, m_X7_readAll, m_X7_begin, so_bd]
  dsimp only
  rw [o1, so_bd]
  dsimp only
  refine b_all hN h hx 1600 _ _ _ _ _ _ _ _ _ _ _ _ _ _ _ _ _ _ _ _ _ _ _ _ _ N N (by omega) (by omega) (by omega) (Bx.mk fun _ => ⟨rfl, ⟨by omega, by omega, by omega, fun x x0 x1 => Or.inl ⟨q2 x x0 x1, p2 x x0 (by omega), p2 _ (by omega) (by omega), p2 _ (by omega) (by omega)⟩⟩, ⟨0, 0, 0, by omega, by omega, by omega, rfl, Or.inl ⟨rfl, u2 0 (by omega) (by omega), rfl⟩, Or.inl ⟨rfl, u2 1 (by omega) (by omega), rfl⟩, Or.inl ⟨rfl, ⟨u2 2 (by omega) (by omega), u2 3 (by omega) (by omega), u2 4 (by omega) (by omega)⟩, rfl, rfl, rfl⟩⟩⟩) ⟨by omega, by omega, by omega, by omega⟩ ⟨t1, t2, t3, t4, t5, t8, t9⟩ ⟨t1, t2, t3, t4, t5, by omega, by omega⟩ (Or.inl ⟨rfl, rfl, rfl, rfl, rfl, t10⟩) (by omega) (by omega) (fun _ w => by have := t7 w; omega)
end
