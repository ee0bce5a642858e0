/-! acts: open ones inferred -/
section
variable {N : Nat} {g b op st le gr go ba ri : Int → Int} {m x : Int}
/-- of the open ones of a score, the bad ones -/
def infB (g b op st : Int → Int) (m x s : Int) : Int := min (op s * x * bG (cB g b) st (bAt (cs g b) st m s) / (100 * bC (cG g b) (cB g b) st (bAt (cs g b) st m s))) (op s)
theorem inf_bd (ok : okP g b) (hb : Bd (cn g b) st m) (hm : 0 < m) (hx : 0 ≤ x ∧ x ≤ 1000) {s : Int} (ho : 0 ≤ op s ∧ op s ≤ 99) : (0 ≤ op s * x ∧ op s * x ≤ 99000) ∧ (0 ≤ op s * x * bG (cB g b) st (bAt (cs g b) st m s) ∧ op s * x * bG (cB g b) st (bAt (cs g b) st m s) ≤ 1176120000) ∧ (0 ≤ op s * x * bG (cB g b) st (bAt (cs g b) st m s) / (100 * bC (cG g b) (cB g b) st (bAt (cs g b) st m s)) ∧ op s * x * bG (cB g b) st (bAt (cs g b) st m s) / (100 * bC (cG g b) (cB g b) st (bAt (cs g b) st m s)) ≤ 1176120000) ∧ 0 ≤ infB g b op st m x s ∧ infB g b op st m x s ≤ op s := by
  have bi := bAt_in' (cs g b) st s hm
  have c := hb.c ok bi.1 bi.2
  have p1 := mul_bd (a := op s) (b := x) (A := 99) (B := 1000) ho hx
  have p2 := mul_bd (a := op s * x) (b := bG (cB g b) st (bAt (cs g b) st m s)) (A := 99000) (B := 11880) (by omega) c.1
  have q0 : 0 ≤ op s * x * bG (cB g b) st (bAt (cs g b) st m s) / (100 * bC (cG g b) (cB g b) st (bAt (cs g b) st m s)) := Int.ediv_nonneg p2.1 (by omega)
  have q1 : op s * x * bG (cB g b) st (bAt (cs g b) st m s) / (100 * bC (cG g b) (cB g b) st (bAt (cs g b) st m s)) ≤ op s * x * bG (cB g b) st (bAt (cs g b) st m s) := Int.ediv_le_self _ p2.1
  unfold infB
  omega
theorem badOf_ok (hN : 40000 ≤ N) (ok : okP g b) (hb : Bd (cn g b) st m) (hm : 0 < m) (hL : Lad (cs g b) (cG g b) (cB g b) st m le gr go ba ri) (hx : 0 ≤ x ∧ x ≤ 1000) {s : Int} (hs : 0 ≤ s ∧ s < 1000) (ho : 0 ≤ op s ∧ op s ≤ 99) : m_X3_badOf N m le go ba (op s) s x = some (infB g b op st m x s) := by
  have ok2 := ok.2.1
  have hm2 := hb.1
  have bi := bAt_in' (cs g b) st s hm
  have c := hb.c ok bi.1 bi.2
  have d := inf_bd ok hb hm hx ho
  have e1 := (hL.c ok hb bi.1 bi.2).2
  rw [m_X3_badOf]
  repeat (first | (with_reducible refine gd_ok ?_ ?_; focus (first | omega | assumption | ((repeat' refine And.intro ?_ ?_) <;> first | omega | assumption) | fail)) | (with_reducible refine ip_ok ?_ ?_; focus (first | omega | assumption | ((repeat' refine And.intro ?_ ?_) <;> first | omega | assumption) | fail)) | (with_reducible refine in_ok ?_ ?_; focus (first | omega | assumption | ((repeat' refine And.intro ?_ ?_) <;> first | omega | assumption) | fail)) | (rw [place_ok hN ok hb hL ⟨by omega, by omega⟩, so_bd]; try dsimp only) | (rw [has1 (m := m) (k := bAt (cs g b) st m s) ⟨by omega, by omega⟩ ⟨by omega, by omega⟩ bi, so_bd]; try dsimp only) | (rw [casesC ok hb hL bi.1 bi.2, so_bd]; try dsimp only) | (rw [so_bd]; try dsimp only))
  rw [m_X3_badOf_b31, e1]
  repeat (first | (with_reducible refine gd_ok ?_ ?_; focus (first | omega | assumption | ((repeat' refine And.intro ?_ ?_) <;> first | omega | assumption) | fail)) | (with_reducible refine ip_ok ?_ ?_; focus (first | omega | assumption | ((repeat' refine And.intro ?_ ?_) <;> first | omega | assumption) | fail)) | (with_reducible refine in_ok ?_ ?_; focus (first | omega | assumption | ((repeat' refine And.intro ?_ ?_) <;> first | omega | assumption) | fail)) | (rw [so_bd]; try dsimp only))
  all_goals rfl
theorem gather_ok (hN : 40000 ≤ N) (ok : okP g b) (hb : Bd (cn g b) st m) (hm : 0 < m) (hL : Lad (cs g b) (cG g b) (cB g b) st m le gr go ba ri) (hx : 0 ≤ x ∧ x ≤ 1000) (ho : ∀ s, 0 ≤ s → s < 1000 → 0 ≤ op s ∧ op s ≤ 99) (hc : cn op (fun _ => 0) ≤ 60) {iz : Int} {isc iop iba : Int → Int} : ∃ isc' iop' iba', m_X3_gather N op m le go ba iz isc iop iba x = some (cn op (fun _ => 0), isc', iop', iba') ∧ ∀ j, 0 ≤ j → j < cn op (fun _ => 0) → isc' j = cs op (fun _ => 0) j ∧ iop' j = op (cs op (fun _ => 0) j) ∧ iba' j = infB g b op st m x (cs op (fun _ => 0) j) := by
  have fin : ∀ (k : Nat) (z : Int) (a1 a2 a3 : Int → Int), k ≤ 1000 → z = cn op (fun _ => 0) → z = rwN op (fun _ => 0) k → (∀ j, 0 ≤ j → j < z → a1 j = rwS op (fun _ => 0) k j ∧ a2 j = op (rwS op (fun _ => 0) k j) ∧ a3 j = infB g b op st m x (rwS op (fun _ => 0) k j)) → ∀ j, 0 ≤ j → j < cn op (fun _ => 0) → a1 j = cs op (fun _ => 0) j ∧ a2 j = op (cs op (fun _ => 0) j) ∧ a3 j = infB g b op st m x (cs op (fun _ => 0) j) := by
    intro k z a1 a2 a3 hk hz hz2 h j j0 j1
    have e : cs op (fun _ => 0) j = rwS op (fun _ => 0) k j := rwS_pre hk (by omega)
    rw [e]
    exact h j j0 (by omega)
  have lp : ∀ (f k : Nat) (z : Int) (a1 a2 a3 : Int → Int) (y : Int), y = (k : Int) → k ≤ 1000 → z = rwN op (fun _ => 0) k → (∀ j, 0 ≤ j → j < z → a1 j = rwS op (fun _ => 0) k j ∧ a2 j = op (rwS op (fun _ => 0) k j) ∧ a3 j = infB g b op st m x (rwS op (fun _ => 0) k j)) → 1000 - k < f → ∃ isc' iop' iba', m_X3_gather_b8 N op m le go ba x f z a1 a2 a3 y = some (cn op (fun _ => 0), isc', iop', iba') ∧ ∀ j, 0 ≤ j → j < cn op (fun _ => 0) → isc' j = cs op (fun _ => 0) j ∧ iop' j = op (cs op (fun _ => 0) j) ∧ iba' j = infB g b op st m x (cs op (fun _ => 0) j) := by
    intro f
    induction f with
    | zero => intro k z a1 a2 a3 y _ _ _ _ h; omega
    | succ f ih =>
      intro k z a1 a2 a3 y hy hk hz hj hf
      have r0 := rwN_0 (g := op) (b := fun _ => 0) k
      have rl : rwN op (fun _ => 0) k ≤ cn op (fun _ => 0) := rwN_le (by omega)
      rw [m_X3_gather_b8]
      by_cases c : 1000 ≤ y
      · have ek : k = 1000 := by omega
        subst ek
        have ec : cn op (fun _ => 0) = z := hz.symm
        refine ⟨a1, a2, a3, ?_, fin 1000 z a1 a2 a3 (by omega) ec.symm hz hj⟩
        rw [ec]
        repeat (first | (with_reducible refine gd_ok ?_ ?_; focus (first | omega | assumption | ((repeat' refine And.intro ?_ ?_) <;> first | omega | assumption) | fail)) | (with_reducible refine ip_ok ?_ ?_; focus (first | omega | assumption | ((repeat' refine And.intro ?_ ?_) <;> first | omega | assumption) | fail)) | (with_reducible refine in_ok ?_ ?_; focus (first | omega | assumption | ((repeat' refine And.intro ?_ ?_) <;> first | omega | assumption) | fail)) | (rw [so_bd]; try dsimp only))
        all_goals rfl
      · by_cases d : 60 ≤ z
        · have ec : cn op (fun _ => 0) = z := by omega
          refine ⟨a1, a2, a3, ?_, fin k z a1 a2 a3 hk ec.symm hz hj⟩
          rw [ec]
          repeat (first | (with_reducible refine gd_ok ?_ ?_; focus (first | omega | assumption | ((repeat' refine And.intro ?_ ?_) <;> first | omega | assumption) | fail)) | (with_reducible refine ip_ok ?_ ?_; focus (first | omega | assumption | ((repeat' refine And.intro ?_ ?_) <;> first | omega | assumption) | fail)) | (with_reducible refine in_ok ?_ ?_; focus (first | omega | assumption | ((repeat' refine And.intro ?_ ?_) <;> first | omega | assumption) | fail)) | (rw [so_bd]; try dsimp only))
          all_goals rfl
        · have hoy := ho y (by omega) (by omega)
          by_cases p : 0 < op k + (fun _ => (0 : Int)) k
          · have p2 : 0 < op (k : Int) + 0 := p
            have p' : 0 < op y := by rw [hy]; omega
            obtain ⟨b1, b2, b3, q1, q2⟩ := ih (k + 1) (z + 1) (uP a1 z y) (uP a2 z (op y)) (uP a3 z (infB g b op st m x y)) (y + 1) (by omega) (by omega) (by rw [rwN_p p, hz]) (fun j j0 j1 => by
              rw [rwS_p p, ← hz]
              by_cases e : j = z
              · rw [e, uP_s, uP_s, uP_s, uP_s, hy]
                exact ⟨rfl, rfl, rfl⟩
              · rw [uP_o _ _ e, uP_o _ _ e, uP_o _ _ e, uP_o _ _ e]
                exact hj j j0 (by omega)) (by omega)
            refine ⟨b1, b2, b3, ?_, q2⟩
            repeat (first | (with_reducible refine gd_ok ?_ ?_; focus (first | omega | assumption | ((repeat' refine And.intro ?_ ?_) <;> first | omega | assumption) | fail)) | (with_reducible refine ip_ok ?_ ?_; focus (first | omega | assumption | ((repeat' refine And.intro ?_ ?_) <;> first | omega | assumption) | fail)) | (with_reducible refine in_ok ?_ ?_; focus (first | omega | assumption | ((repeat' refine And.intro ?_ ?_) <;> first | omega | assumption) | fail)) | (rw [badOf_ok hN ok hb hm hL hx (s := y) ⟨by omega, by omega⟩ hoy, so_bd]; try dsimp only) | (rw [so_bd]; try dsimp only))
            exact q1
          · have p2 : ¬ 0 < op (k : Int) + 0 := p
            have p' : ¬ 0 < op y := by rw [hy]; omega
            obtain ⟨b1, b2, b3, q1, q2⟩ := ih (k + 1) z a1 a2 a3 (y + 1) (by omega) (by omega) (by rw [rwN_n p, hz]) (by rw [rwS_n p]; exact hj) (by omega)
            refine ⟨b1, b2, b3, ?_, q2⟩
            repeat (first | (with_reducible refine gd_ok ?_ ?_; focus (first | omega | assumption | ((repeat' refine And.intro ?_ ?_) <;> first | omega | assumption) | fail)) | (with_reducible refine ip_ok ?_ ?_; focus (first | omega | assumption | ((repeat' refine And.intro ?_ ?_) <;> first | omega | assumption) | fail)) | (with_reducible refine in_ok ?_ ?_; focus (first | omega | assumption | ((repeat' refine And.intro ?_ ?_) <;> first | omega | assumption) | fail)) | (rw [so_bd]; try dsimp only))
            exact q1
  exact lp N 0 0 isc iop iba 0 rfl (by decide) rfl (fun j j0 j1 => by omega) (by omega)
theorem oc_rows {v isc w : Int → Int} (hv : ∀ s, 0 ≤ s → s < 1000 → ¬ 0 < op s → v s = 0) (hj : ∀ j, 0 ≤ j → j < cn op (fun _ => 0) → isc j = cs op (fun _ => 0) j ∧ w j = v (cs op (fun _ => 0) j)) {s : Int} (s0 : 0 ≤ s) (s1 : s < 1000) : oc isc w (cn op (fun _ => 0)) s = v s := by
  have r := rows_sum (g := op) (b := fun _ => 0) (f := v) (W := fun t => if s = t then 1 else 0) (fun t t0 t1 nt => hv t t0 t1 (fun z => nt (by show 0 < op t + 0; omega))) (k := 1000) (by decide) (by decide)
  have e1 : sI (fun t => (if s = t then (1 : Int) else 0) * v t) 1000 = v s := by
    have q := sI_point (W := v) (a := s) (c := 1) (n := 1000) (by decide)
    rw [if_pos ⟨s0, s1⟩, Int.mul_one] at q
    rw [← q]
    exact sI_congr (fun j _ _ => Int.mul_comm _ _)
  have lall : lb op (fun _ => 0) 1000 = cn op (fun _ => 0) := rfl
  rw [lall] at r
  rw [← e1, r]
  unfold oc
  refine sI_congr (fun j j0 j1 => ?_)
  obtain ⟨a1, a2⟩ := hj j j0 j1
  show (if isc j = s then w j else 0) = (if s = cs op (fun _ => 0) j then (1 : Int) else 0) * v (cs op (fun _ => 0) j)
  rw [a1, a2]
  by_cases c : cs op (fun _ => 0) j = s
  · rw [if_pos c, if_pos c.symm, Int.one_mul]
  · rw [if_neg c, if_neg (fun z => c z.symm), Int.zero_mul]
end
theorem Link.inf {lb isc iop iba isc' iop' iba' p q : Int → Int} {iz iz' k a b c : Int} (h : Link lb iz isc iop iba k a b c p q) (nk : k ≠ 7) : Link lb iz' isc' iop' iba' k a b c p q := by
  rcases h with h | h | h | h | h | h | h
  · exact Or.inl h
  · exact Or.inr (Or.inl h)
  · exact Or.inr (Or.inr (Or.inl h))
  · exact Or.inr (Or.inr (Or.inr (Or.inl h)))
  · exact Or.inr (Or.inr (Or.inr (Or.inr (Or.inl h))))
  · exact Or.inr (Or.inr (Or.inr (Or.inr (Or.inr (Or.inl h)))))
  · exact absurd h.1 nk
theorem rwN_none (n : Nat) : rwN (fun _ => 0) (fun _ => 0) n = 0 := by
  induction n with
  | zero => rfl
  | succ n ih => rw [rwN_n (by show ¬ (0 : Int) < 0 + 0; decide), ih]
section
variable {N : Nat} {stt g b op st sc go ba st' : Int → Int} {m x : Int}
/-- the reference's way through the scores -/
def InI (st bo : Int → Int) (sy : Int → Int) (y : Int) : Prop := (∀ s, 0 ≤ s → s < 1000 → (s < y → sy s = st s + (st (2000 + s) - bo s) ∧ sy (1000 + s) = st (1000 + s) + bo s ∧ sy (2000 + s) = 0) ∧ (y ≤ s → sy s = st s ∧ sy (1000 + s) = st (1000 + s) ∧ sy (2000 + s) = st (2000 + s))) ∧ ∀ k, 3000 ≤ k → k < 3206 → sy k = st k
theorem infer_lp (hN : 40000 ≤ N) (ok : okP g b) (hr : RwA g b sc go ba) (hb : Bd (cn g b) st m) (hm : 0 < m) (hs : SA st' st m) (hx : 0 ≤ x ∧ x ≤ 1000) (ho : ∀ s, 0 ≤ s → s < 1000 → stt (2000 + s) = op s ∧ 0 ≤ op s ∧ op s ≤ 99) {km n : Int} {kp w : Int → Int} : ∀ (f : Nat) (sy : Int → Int) (y : Int), 0 ≤ y → y ≤ 1000 → InI stt (infB g b op st m x) sy y → (1000 - y).toNat < f → ∃ s1, InI stt (infB g b op st m x) s1 1000 ∧ m_X13_infer_b66 N x km (cn g b) m kp w sc go ba st' n f sy y = (m_X13_ends N w km s1 kp n).bind fun r3 => some (r3.1, r3.2.1, cn g b, m, r3.2.2.1, r3.2.2.2, w, sc, go, ba, st') := by
  have ok2 := ok.2.1
  have hm2 := hb.1
  intro f
  induction f with
  | zero => intro sy y _ _ _ h; omega
  | succ f ih =>
    intro sy y h0 h1 hI hf
    rw [m_X13_infer_b66]
    by_cases c : 1000 ≤ y
    · have e : y = 1000 := by omega
      subst e
      refine ⟨sy, hI, ?_⟩
      repeat (first | (with_reducible refine gd_ok ?_ ?_; focus (first | omega | assumption | ((repeat' refine And.intro ?_ ?_) <;> first | omega | assumption) | fail)) | (with_reducible refine ip_ok ?_ ?_; focus (first | omega | assumption | ((repeat' refine And.intro ?_ ?_) <;> first | omega | assumption) | fail)) | (with_reducible refine in_ok ?_ ?_; focus (first | omega | assumption | ((repeat' refine And.intro ?_ ?_) <;> first | omega | assumption) | fail)) | (rw [so_bd]; try dsimp only))
      all_goals rfl
    · obtain ⟨hI1, hI2⟩ := hI
      obtain ⟨o1, o2⟩ := ho y h0 (by omega)
      obtain ⟨u1, u2, u3⟩ := (hI1 y h0 (by omega)).2 (Int.le_refl _)
      rw [o1] at u3
      have d := inf_bd (op := op) ok hb hm hx (s := y) o2
      have bi := bAt_in' (cs g b) st y hm
      have bc := hb.c ok bi.1 bi.2
      have k1 := bandAt_ok (N := N) hN ok hr hb hs (x := y) ⟨by omega, by omega⟩
      have k2 := ofBand1 (N := N) hN ok hr hb hs bi.1 bi.2
      have k3 := ofBand2 (N := N) hN ok hr hb hs bi.1 bi.2
      have k3 : m_X13_ofBand N go ba st' (bAt (cs g b) st m y) 2 = some (bC (cG g b) (cB g b) st (bAt (cs g b) st m y)) := k3
      have emin : min (op y) (op y * x * bG (cB g b) st (bAt (cs g b) st m y) / (100 * bC (cG g b) (cB g b) st (bAt (cs g b) st m y))) = infB g b op st m x y := by unfold infB; omega
      obtain ⟨s2, hs2⟩ : ∃ s, s = uP (uP (uP sy (1000 + y) (sy (1000 + y) + infB g b op st m x y)) (0 + y) (uP sy (1000 + y) (sy (1000 + y) + infB g b op st m x y) (0 + y) + (uP sy (1000 + y) (sy (1000 + y) + infB g b op st m x y) (2000 + y) - infB g b op st m x y))) (2000 + y) 0 := ⟨_, rfl⟩
      have v1 : s2 y = sy y + (op y - infB g b op st m x y) := by rw [hs2, Int.zero_add, uP_o _ _ (by omega), uP_s, uP_o _ _ (by omega), uP_o _ _ (by omega), u3]
      have v2 : s2 (1000 + y) = sy (1000 + y) + infB g b op st m x y := by rw [hs2, Int.zero_add, uP_o _ _ (by omega), uP_o _ _ (by omega), uP_s]
      have v3 : s2 (2000 + y) = 0 := by rw [hs2, uP_s]
      have v4 : ∀ k, k ≠ y → k ≠ 1000 + y → k ≠ 2000 + y → s2 k = sy k := fun k q1 q2 q3 => by rw [hs2, Int.zero_add, uP_o _ _ q3, uP_o _ _ q1, uP_o _ _ q2]
      obtain ⟨s1, q1, q2⟩ := ih s2 (y + 1) (by omega) (by omega) ⟨fun s s0 s1 => by
        by_cases e : s = y
        · subst e
          refine ⟨fun _ => ⟨by rw [v1, u1, o1], by rw [v2, u2], v3⟩, fun z => by omega⟩
        · rw [v4 s e (by omega) (by omega), v4 (1000 + s) (by omega) (by omega) (by omega), v4 (2000 + s) (by omega) (by omega) (by omega)]
          exact ⟨fun z => (hI1 s s0 s1).1 (by omega), fun z => (hI1 s s0 s1).2 (by omega)⟩, fun k k0 k1 => by rw [v4 k (by omega) (by omega) (by omega)]; exact hI2 k k0 k1⟩ (by omega)
      refine ⟨s1, q1, ?_⟩
      rw [u3]
      repeat (first | (with_reducible refine gd_ok ?_ ?_; focus (first | omega | assumption | ((repeat' refine And.intro ?_ ?_) <;> first | omega | assumption) | fail)) | (with_reducible refine ip_ok ?_ ?_; focus (first | omega | assumption | ((repeat' refine And.intro ?_ ?_) <;> first | omega | assumption) | fail)) | (with_reducible refine in_ok ?_ ?_; focus (first | omega | assumption | ((repeat' refine And.intro ?_ ?_) <;> first | omega | assumption) | fail)) | (rw [k1, so_bd]; try dsimp only) | (rw [k2, so_bd]; try dsimp only) | (rw [k3, so_bd]; try dsimp only) | rw [emin] | (rw [so_bd]; try dsimp only))
      rw [← hs2]
      exact q2
end
