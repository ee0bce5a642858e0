/-! acts: turning back -/
theorem oc_s {sc ca : Int → Int} {n s : Int} (h : 0 ≤ n) : oc sc ca (n + 1) s = oc sc ca n s + (if sc n = s then ca n else 0) := sI_s _ h
section
variable {N : Nat} {isc iop iba : Int → Int} {iz sign : Int}
theorem imove_ok (hN : 40000 ≤ N) (hz : 0 ≤ iz ∧ iz ≤ 60) (hd : ∀ i, 0 ≤ i → i < iz → 0 ≤ isc i ∧ isc i < 1000) {g0 b0 o0 : Int → Int} : ∃ g' b' o', m_X3_move N iz isc iop iba g0 b0 o0 sign = some (g', b', o') ∧ ∀ k, g' k = g0 k + sign * (oc isc iop iz k - oc isc iba iz k) ∧ b' k = b0 k + sign * oc isc iba iz k ∧ o' k = o0 k - sign * oc isc iop iz k := by
  have lp : ∀ (f : Nat) (g b o : Int → Int) (y : Int), 0 ≤ y → y ≤ iz → (∀ k, g k = g0 k + sign * (oc isc iop y k - oc isc iba y k) ∧ b k = b0 k + sign * oc isc iba y k ∧ o k = o0 k - sign * oc isc iop y k) → (iz - y).toNat < f → ∃ g' b' o', m_X3_move_b2 N iz isc iop iba sign f g b o y = some (g', b', o') ∧ ∀ k, g' k = g0 k + sign * (oc isc iop iz k - oc isc iba iz k) ∧ b' k = b0 k + sign * oc isc iba iz k ∧ o' k = o0 k - sign * oc isc iop iz k := by
    intro f
    induction f with
    | zero => intro g b o y _ _ _ h; omega
    | succ f ih =>
      intro g b o y h0 h1 hk hf
      rw [m_X3_move_b2]
      by_cases c : iz ≤ y
      · refine ⟨g, b, o, ?_, fun k => by rw [show iz = y by omega]; exact hk k⟩
        repeat (first | (with_reducible refine gd_ok ?_ ?_; focus (first | omega | assumption | ((repeat' refine And.intro ?_ ?_) <;> first | omega | assumption) | fail)) | (with_reducible refine ip_ok ?_ ?_; focus (first | omega | assumption | ((repeat' refine And.intro ?_ ?_) <;> first | omega | assumption) | fail)) | (with_reducible refine in_ok ?_ ?_; focus (first | omega | assumption | ((repeat' refine And.intro ?_ ?_) <;> first | omega | assumption) | fail)) | (rw [so_bd]; try dsimp only))
        all_goals rfl
      · have d := hd y h0 (by omega)
        have mv : m_X6_move N g b (isc y) (sign * (iop y - iba y)) (sign * iba y) = some (uP g (isc y) (g (isc y) + sign * (iop y - iba y)), uP b (isc y) (b (isc y) + sign * iba y)) := by
          rw [m_X6_move]
          repeat (first | (with_reducible refine gd_ok ?_ ?_; focus (first | omega | assumption | ((repeat' refine And.intro ?_ ?_) <;> first | omega | assumption) | fail)) | (with_reducible refine ip_ok ?_ ?_; focus (first | omega | assumption | ((repeat' refine And.intro ?_ ?_) <;> first | omega | assumption) | fail)) | (with_reducible refine in_ok ?_ ?_; focus (first | omega | assumption | ((repeat' refine And.intro ?_ ?_) <;> first | omega | assumption) | fail)) | (rw [so_bd]; try dsimp only))
          all_goals rfl
        obtain ⟨g', b', o', q1, q2⟩ := ih (uP g (isc y) (g (isc y) + sign * (iop y - iba y))) (uP b (isc y) (b (isc y) + sign * iba y)) (uP o (isc y) (o (isc y) - sign * iop y)) (y + 1) (by omega) (by omega) (fun k => by
          have z1 := oc_s (sc := isc) (ca := iop) (s := k) h0
          have z2 := oc_s (sc := isc) (ca := iba) (s := k) h0
          have hk' := hk k
          by_cases q : k = isc y
          · subst q
            rw [if_pos rfl] at z1 z2
            have e1 : sign * (oc isc iop (y + 1) (isc y) - oc isc iba (y + 1) (isc y)) = sign * (oc isc iop y (isc y) - oc isc iba y (isc y)) + sign * (iop y - iba y) := by
              rw [← Int.mul_add, z1, z2]
              congr 1
              omega
            have e2 : sign * oc isc iba (y + 1) (isc y) = sign * oc isc iba y (isc y) + sign * iba y := by rw [z2, Int.mul_add]
            have e3 : sign * oc isc iop (y + 1) (isc y) = sign * oc isc iop y (isc y) + sign * iop y := by rw [z1, Int.mul_add]
            rw [uP_s, uP_s, uP_s, e1, e2, e3]
            omega
          · rw [if_neg (fun z => q z.symm), Int.add_zero] at z1 z2
            rw [uP_o _ _ q, uP_o _ _ q, uP_o _ _ q, z1, z2]
            exact hk') (by omega)
        refine ⟨g', b', o', ?_, q2⟩
        repeat (first | (with_reducible refine gd_ok ?_ ?_; focus (first | omega | assumption | ((repeat' refine And.intro ?_ ?_) <;> first | omega | assumption) | fail)) | (with_reducible refine ip_ok ?_ ?_; focus (first | omega | assumption | ((repeat' refine And.intro ?_ ?_) <;> first | omega | assumption) | fail)) | (with_reducible refine in_ok ?_ ?_; focus (first | omega | assumption | ((repeat' refine And.intro ?_ ?_) <;> first | omega | assumption) | fail)) | (rw [mv, so_bd]; try dsimp only) | (rw [so_bd]; try dsimp only))
        exact q1
  exact lp N g0 b0 o0 0 (Int.le_refl 0) hz.1 (fun k => by
    have z : ∀ ca : Int → Int, oc isc ca 0 k = 0 := fun _ => rfl
    rw [z, z, Int.sub_zero, Int.mul_zero, Int.add_zero, Int.add_zero, Int.sub_zero]
    exact ⟨rfl, rfl, rfl⟩) (by omega)
end
section
variable {N : Nat} {st g b op ds dc da dr dl isc iop iba ak a1 a2 a3 kp was : Int → Int} {le mo gc bc rc dz ln iz az sd : Int}
theorem undo_fin (h : ARel st le mo gc bc rc g b op dz ds dc da dr dl ln iz isc iop iba az ak a1 a2 a3 kp) (hn : 1 ≤ az) {st' g' b' op' dr' dl' : Int → Int} {le' mo' gc' bc' rc' dz' : Int} (hs : ∀ k, 0 ≤ k → k < 3206 → st' k = blk kp (az - 1) k) (hP' : PoR (blk kp (az - 1)) le' mo' gc' bc' rc' g' b' op') (hD' : DeR (blk kp (az - 1)) dz' ds dc da dr' dl') (hlb : ∀ j i, 0 ≤ j → j < az - 1 → ak j = 6 → 0 < a1 j → 0 ≤ i → i < dz' → (dl' i = a1 j ↔ dl i = a1 j)) (hdl' : ∀ i, 0 ≤ i → i < dz' → 0 ≤ dl' i ∧ dl' i ≤ ln) : ARel st' le' mo' gc' bc' rc' g' b' op' dz' ds dc da dr' dl' ln iz isc iop iba (az - 1) ak a1 a2 a3 kp := by
  obtain ⟨hV, hP, hD, hC, hl, hdl⟩ := h
  have hV' : StV (blk kp (az - 1)) := by
    have q := (hC.2.1 (az - 1) (by omega) (by omega)).2
    rw [Sq_l (by omega)] at q
    exact q.congr (fun k k0 k1 => (nrm_at k0 k1).symm)
  have hC' : ChR dl' iz isc iop iba ln ak a1 a2 a3 (az - 1) kp (blk kp (az - 1)) := hC.pop hn (fun k _ _ => rfl) (fun j j0 j1 q => q.lb (fun k6 i i0 i1 => by
    have m1 : Sq kp az st (j + 1) 3200 ≤ dz' := by
      have e0 : Sq kp az st (az - 1) 3200 = dz' := by
        rw [Sq_l (by omega), nrm_at (by decide) (by decide)]
        exact hD'.1
      by_cases y : j + 1 = az - 1
      · rw [y, e0]; exact Int.le_refl _
      · have := hC.2.2.1 (j + 1) (az - 1) (by omega) (by omega) (by omega)
        rw [e0] at this
        exact this
    have m3 : 0 < a1 j := by
      rcases q with q | q | q | q | q | q | q
      · omega
      · omega
      · omega
      · omega
      · omega
      · exact q.2.1
      · omega
    exact hlb j i j0 j1 k6 m3 i0 (by omega)))
  exact ARel.congr ⟨hV', hP', hD', hC', hl, hdl'⟩ hs
set_option maxHeartbeats 8000000 in
theorem s_undo (hN : 40000 ≤ N) (h : ARel st le mo gc bc rc g b op dz ds dc da dr dl ln iz isc iop iba az ak a1 a2 a3 kp) : ∃ a sd' le' mo' gc' bc' rc' g' b' op' dz' dr' dl' az' st', m_X12_undo N iz isc iop iba ds ak a1 a2 a3 sd le mo gc bc rc g b op dz dr dl az = some (a, sd', le', mo', gc', bc', rc', g', b', op', dz', dr', dl', az') ∧ m_X13_undo N kp az st = some (a, az', st') ∧ ARel st' le' mo' gc' bc' rc' g' b' op' dz' ds dc da dr' dl' ln iz isc iop iba az' ak a1 a2 a3 kp ∧ (sd' = 0 ∨ (sd' = sd ∧ le' = le ∧ mo' = mo ∧ g' = g ∧ b' = b)) := by
  have hA := h
  obtain ⟨hV, hP, hD, hC, hl, hdl⟩ := h
  have hn := hC.1
  have hz := hV.2.2.2.1
  have ez := hD.1
  rw [ez] at hz
  by_cases c : az = 0
  · refine ⟨-1, sd, le, mo, gc, bc, rc, g, b, op, dz, dr, dl, az, st, ?_, ?_, hA, Or.inr ⟨rfl, rfl, rfl, rfl, rfl⟩⟩
    · rw [m_X12_undo]
      repeat (first | (with_reducible refine gd_ok ?_ ?_; focus (first | omega | assumption | ((repeat' refine And.intro ?_ ?_) <;> first | omega | assumption) | fail)) | (with_reducible refine ip_ok ?_ ?_; focus (first | omega | assumption | ((repeat' refine And.intro ?_ ?_) <;> first | omega | assumption) | fail)) | (with_reducible refine in_ok ?_ ?_; focus (first | omega | assumption | ((repeat' refine And.intro ?_ ?_) <;> first | omega | assumption) | fail)) | (rw [so_bd]; try dsimp only))
      all_goals rfl
    · rw [m_X13_undo]
      repeat (first | (with_reducible refine gd_ok ?_ ?_; focus (first | omega | assumption | ((repeat' refine And.intro ?_ ?_) <;> first | omega | assumption) | fail)) | (with_reducible refine ip_ok ?_ ?_; focus (first | omega | assumption | ((repeat' refine And.intro ?_ ?_) <;> first | omega | assumption) | fail)) | (with_reducible refine in_ok ?_ ?_; focus (first | omega | assumption | ((repeat' refine And.intro ?_ ?_) <;> first | omega | assumption) | fail)) | (rw [so_bd]; try dsimp only))
      all_goals rfl
  · obtain ⟨st', u1, u2⟩ := rundo_ok (N := N) (st := st) (kp := kp) (km := az) hN ⟨by omega, by omega⟩
    have L0 := (hC.2.1 (az - 1) (by omega) (by omega)).1
    rw [show az - 1 + 1 = az by omega, Sq_l (by omega), Sq_n (by omega)] at L0
    have at_p : ∀ k, 0 ≤ k → k < 3206 → nrm (blk kp (az - 1)) k = blk kp (az - 1) k := fun k k0 k1 => nrm_at k0 k1
    have at_q : ∀ k, 0 ≤ k → k < 3206 → nrm st k = st k := fun k k0 k1 => nrm_at k0 k1
    have cls : ∀ r, m_X12_turnBack N iz isc iop iba ds le mo gc bc rc g b op dz dr dl (ak (az - 1)) (a1 (az - 1)) (a2 (az - 1)) (a3 (az - 1)) = some r → m_X12_undo N iz isc iop iba ds ak a1 a2 a3 sd le mo gc bc rc g b op dz dr dl az = some (az - 1, 0, r.1, r.2.1, r.2.2.1, r.2.2.2.1, r.2.2.2.2.1, r.2.2.2.2.2.1, r.2.2.2.2.2.2.1, r.2.2.2.2.2.2.2.1, r.2.2.2.2.2.2.2.2.1, r.2.2.2.2.2.2.2.2.2.1, r.2.2.2.2.2.2.2.2.2.2, az - 1) := by
      intro r hr
      rw [m_X12_undo]
      repeat (first | (with_reducible refine gd_ok ?_ ?_; focus (first | omega | assumption | ((repeat' refine And.intro ?_ ?_) <;> first | omega | assumption) | fail)) | (with_reducible refine ip_ok ?_ ?_; focus (first | omega | assumption | ((repeat' refine And.intro ?_ ?_) <;> first | omega | assumption) | fail)) | (with_reducible refine in_ok ?_ ?_; focus (first | omega | assumption | ((repeat' refine And.intro ?_ ?_) <;> first | omega | assumption) | fail)) | (rw [hr, so_bd]; try dsimp only) | (rw [so_bd]; try dsimp only))
      all_goals rfl
    have keepP : (∀ k, 0 ≤ k → k < 3000 → blk kp (az - 1) k = st k) → ∀ s, 0 ≤ s → s < 1000 → blk kp (az - 1) s = g s ∧ blk kp (az - 1) (1000 + s) = b s ∧ blk kp (az - 1) (2000 + s) = op s := fun hk s s0 s1 => by
      rw [hk s s0 (by omega), hk (1000 + s) (by omega) (by omega), hk (2000 + s) (by omega) (by omega)]
      exact hP.1 s s0 s1
    have keepR : (∀ k, 3201 ≤ k → k < 3206 → blk kp (az - 1) k = st k) → blk kp (az - 1) 3201 = le ∧ blk kp (az - 1) 3202 = mo ∧ blk kp (az - 1) 3203 = gc ∧ blk kp (az - 1) 3204 = bc ∧ blk kp (az - 1) 3205 = rc := fun hk => by
      rw [hk 3201 (by decide) (by decide), hk 3202 (by decide) (by decide), hk 3203 (by decide) (by decide), hk 3204 (by decide) (by decide), hk 3205 (by decide) (by decide)]
      exact hP.2
    have keepD : (∀ k, 3000 ≤ k → k ≤ 3200 → blk kp (az - 1) k = st k) → DeR (blk kp (az - 1)) dz ds dc da dr dl := fun hk => ⟨by rw [hk 3200 (by decide) (by decide)]; exact ez, fun i i0 i1 => by
      rw [hk (3000 + 5 * i) (by omega) (by omega), hk (3000 + 5 * i + 1) (by omega) (by omega), hk (3000 + 5 * i + 2) (by omega) (by omega), hk (3000 + 5 * i + 3) (by omega) (by omega), hk (3000 + 5 * i + 4) (by omega) (by omega)]
      exact hD.2 i i0 i1⟩
    rcases L0 with L | L | L | L | L | L | L
    · obtain ⟨l0, l1, ⟨l2, l3⟩, l4⟩ := L
      rw [at_p _ l1.1 (by omega), at_q _ l1.1 (by omega)] at l2
      rw [at_p _ (by omega) (by omega), at_q _ (by omega) (by omega)] at l3
      have l5 : ∀ x, 0 ≤ x → x < 3206 → x ≠ a1 (az - 1) → x ≠ 1000 + a1 (az - 1) → blk kp (az - 1) x = st x := fun x x0 x1 y1 y2 => by
        have := l4 x x0 x1 y1 y2
        rw [at_p x x0 x1, at_q x x0 x1] at this
        exact this
      obtain ⟨p1, p2, p3⟩ := hP.1 _ l1.1 l1.2
      refine ⟨az - 1, 0, le, mo, gc, bc, rc, uP g (a1 (az - 1)) (g (a1 (az - 1)) + -(a2 (az - 1))), uP b (a1 (az - 1)) (b (a1 (az - 1)) + -(a3 (az - 1))), op, dz, dr, dl, az - 1, st', cls (le, mo, gc, bc, rc, uP g (a1 (az - 1)) (g (a1 (az - 1)) + -(a2 (az - 1))), uP b (a1 (az - 1)) (b (a1 (az - 1)) + -(a3 (az - 1))), op, dz, dr, dl) ?_, u1, undo_fin hA (by omega) u2 ⟨fun s s0 s1 => ?_, keepR (fun k k0 k1 => l5 k (by omega) k1 (by omega) (by omega))⟩ (keepD (fun k k0 k1 => l5 k (by omega) (by omega) (by omega) (by omega))) (fun j i _ _ _ _ _ _ => Iff.rfl) hdl, Or.inl rfl⟩
      · have mv : m_X6_move N g b (a1 (az - 1)) (-(a2 (az - 1))) (-(a3 (az - 1))) = some (uP g (a1 (az - 1)) (g (a1 (az - 1)) + -(a2 (az - 1))), uP b (a1 (az - 1)) (b (a1 (az - 1)) + -(a3 (az - 1)))) := by
          rw [m_X6_move]
          repeat (first | (with_reducible refine gd_ok ?_ ?_; focus (first | omega | assumption | ((repeat' refine And.intro ?_ ?_) <;> first | omega | assumption) | fail)) | (with_reducible refine ip_ok ?_ ?_; focus (first | omega | assumption | ((repeat' refine And.intro ?_ ?_) <;> first | omega | assumption) | fail)) | (with_reducible refine in_ok ?_ ?_; focus (first | omega | assumption | ((repeat' refine And.intro ?_ ?_) <;> first | omega | assumption) | fail)) | (rw [so_bd]; try dsimp only))
          all_goals rfl
        rw [m_X12_turnBack, l0]
        repeat (first | (with_reducible refine gd_ok ?_ ?_; focus (first | omega | assumption | ((repeat' refine And.intro ?_ ?_) <;> first | omega | assumption) | fail)) | (with_reducible refine ip_ok ?_ ?_; focus (first | omega | assumption | ((repeat' refine And.intro ?_ ?_) <;> first | omega | assumption) | fail)) | (with_reducible refine in_ok ?_ ?_; focus (first | omega | assumption | ((repeat' refine And.intro ?_ ?_) <;> first | omega | assumption) | fail)) | (rw [mv, so_bd]; try dsimp only) | (rw [so_bd]; try dsimp only))
        all_goals rfl
      · by_cases e : s = a1 (az - 1)
        · rw [e, uP_s, uP_s, l2, l3, p1, p2, l5 (2000 + a1 (az - 1)) (by omega) (by omega) (by omega) (by omega), p3]
          exact ⟨by omega, by omega, rfl⟩
        · rw [uP_o _ _ e, uP_o _ _ e, l5 s s0 (by omega) e (by omega), l5 (1000 + s) (by omega) (by omega) (by omega) (by omega), l5 (2000 + s) (by omega) (by omega) (by omega) (by omega)]
          exact hP.1 s s0 s1
    · obtain ⟨l0, l1, l2, l4⟩ := L
      rw [at_p _ (by omega) (by omega)] at l2
      have l5 : ∀ x, 0 ≤ x → x < 3206 → x ≠ 3201 + a1 (az - 1) → blk kp (az - 1) x = st x := fun x x0 x1 y1 => by
        have := l4 x x0 x1 y1
        rw [at_p x x0 x1, at_q x x0 x1] at this
        exact this
      obtain ⟨-, r1, r2, r3, r4, r5⟩ := id hP
      rcases l1 with e | e
      · rw [e] at l2 l5
        refine ⟨az - 1, 0, a2 (az - 1), mo, gc, bc, rc, g, b, op, dz, dr, dl, az - 1, st', cls (a2 (az - 1), mo, gc, bc, rc, g, b, op, dz, dr, dl) ?_, u1, undo_fin hA (by omega) u2 ⟨keepP (fun k k0 k1 => l5 k k0 (by omega) (by omega)), l2, ?_, ?_, ?_, ?_⟩ (keepD (fun k k0 k1 => l5 k (by omega) (by omega) (by omega))) (fun j i _ _ _ _ _ _ => Iff.rfl) hdl, Or.inl rfl⟩
        · have sb : m_X6_setBound N le mo 0 (a2 (az - 1)) = some (a2 (az - 1), mo) := by
            rw [m_X6_setBound]
            repeat (first | (with_reducible refine gd_ok ?_ ?_; focus (first | omega | assumption | ((repeat' refine And.intro ?_ ?_) <;> first | omega | assumption) | fail)) | (with_reducible refine ip_ok ?_ ?_; focus (first | omega | assumption | ((repeat' refine And.intro ?_ ?_) <;> first | omega | assumption) | fail)) | (with_reducible refine in_ok ?_ ?_; focus (first | omega | assumption | ((repeat' refine And.intro ?_ ?_) <;> first | omega | assumption) | fail)) | (rw [so_bd]; try dsimp only))
            all_goals rfl
          rw [m_X12_turnBack, l0, e]
          repeat (first | (with_reducible refine gd_ok ?_ ?_; focus (first | omega | assumption | ((repeat' refine And.intro ?_ ?_) <;> first | omega | assumption) | fail)) | (with_reducible refine ip_ok ?_ ?_; focus (first | omega | assumption | ((repeat' refine And.intro ?_ ?_) <;> first | omega | assumption) | fail)) | (with_reducible refine in_ok ?_ ?_; focus (first | omega | assumption | ((repeat' refine And.intro ?_ ?_) <;> first | omega | assumption) | fail)) | (rw [sb, so_bd]; try dsimp only) | (rw [so_bd]; try dsimp only))
          all_goals rfl
        · rw [l5 3202 (by decide) (by decide) (by decide)]; exact r2
        · rw [l5 3203 (by decide) (by decide) (by decide)]; exact r3
        · rw [l5 3204 (by decide) (by decide) (by decide)]; exact r4
        · rw [l5 3205 (by decide) (by decide) (by decide)]; exact r5
      · rw [e] at l2 l5
        refine ⟨az - 1, 0, le, a2 (az - 1), gc, bc, rc, g, b, op, dz, dr, dl, az - 1, st', cls (le, a2 (az - 1), gc, bc, rc, g, b, op, dz, dr, dl) ?_, u1, undo_fin hA (by omega) u2 ⟨keepP (fun k k0 k1 => l5 k k0 (by omega) (by omega)), ?_, l2, ?_, ?_, ?_⟩ (keepD (fun k k0 k1 => l5 k (by omega) (by omega) (by omega))) (fun j i _ _ _ _ _ _ => Iff.rfl) hdl, Or.inl rfl⟩
        · have sb : m_X6_setBound N le mo 1 (a2 (az - 1)) = some (le, a2 (az - 1)) := by
            rw [m_X6_setBound]
            repeat (first | (with_reducible refine gd_ok ?_ ?_; focus (first | omega | assumption | ((repeat' refine And.intro ?_ ?_) <;> first | omega | assumption) | fail)) | (with_reducible refine ip_ok ?_ ?_; focus (first | omega | assumption | ((repeat' refine And.intro ?_ ?_) <;> first | omega | assumption) | fail)) | (with_reducible refine in_ok ?_ ?_; focus (first | omega | assumption | ((repeat' refine And.intro ?_ ?_) <;> first | omega | assumption) | fail)) | (rw [so_bd]; try dsimp only))
            all_goals rfl
          rw [m_X12_turnBack, l0, e]
          repeat (first | (with_reducible refine gd_ok ?_ ?_; focus (first | omega | assumption | ((repeat' refine And.intro ?_ ?_) <;> first | omega | assumption) | fail)) | (with_reducible refine ip_ok ?_ ?_; focus (first | omega | assumption | ((repeat' refine And.intro ?_ ?_) <;> first | omega | assumption) | fail)) | (with_reducible refine in_ok ?_ ?_; focus (first | omega | assumption | ((repeat' refine And.intro ?_ ?_) <;> first | omega | assumption) | fail)) | (rw [sb, so_bd]; try dsimp only) | (rw [so_bd]; try dsimp only))
          all_goals rfl
        · rw [l5 3201 (by decide) (by decide) (by decide)]; exact r1
        · rw [l5 3203 (by decide) (by decide) (by decide)]; exact r3
        · rw [l5 3204 (by decide) (by decide) (by decide)]; exact r4
        · rw [l5 3205 (by decide) (by decide) (by decide)]; exact r5
    · obtain ⟨l0, ⟨l1, l2, l3⟩, l4⟩ := L
      rw [at_p _ (by decide) (by decide)] at l1 l2 l3
      have l5 : ∀ x, 0 ≤ x → x < 3203 → blk kp (az - 1) x = st x := fun x x0 x1 => by
        have := l4 x x0 x1
        rw [at_p x x0 (by omega), at_q x x0 (by omega)] at this
        exact this
      obtain ⟨-, r1, r2, r3, r4, r5⟩ := id hP
      refine ⟨az - 1, 0, le, mo, a1 (az - 1), a2 (az - 1), a3 (az - 1), g, b, op, dz, dr, dl, az - 1, st', cls (le, mo, a1 (az - 1), a2 (az - 1), a3 (az - 1), g, b, op, dz, dr, dl) ?_, u1, undo_fin hA (by omega) u2 ⟨keepP (fun k k0 k1 => l5 k k0 (by omega)), ?_, ?_, l1, l2, l3⟩ (keepD (fun k k0 k1 => l5 k (by omega) (by omega))) (fun j i _ _ _ _ _ _ => Iff.rfl) hdl, Or.inl rfl⟩
      · rw [m_X12_turnBack, l0]
        repeat (first | (with_reducible refine gd_ok ?_ ?_; focus (first | omega | assumption | ((repeat' refine And.intro ?_ ?_) <;> first | omega | assumption) | fail)) | (with_reducible refine ip_ok ?_ ?_; focus (first | omega | assumption | ((repeat' refine And.intro ?_ ?_) <;> first | omega | assumption) | fail)) | (with_reducible refine in_ok ?_ ?_; focus (first | omega | assumption | ((repeat' refine And.intro ?_ ?_) <;> first | omega | assumption) | fail)) | (rw [so_bd]; try dsimp only))
        all_goals rfl
      · rw [l5 3201 (by decide) (by decide)]; exact r1
      · rw [l5 3202 (by decide) (by decide)]; exact r2
    · obtain ⟨l0, l1, l4⟩ := L
      rw [at_q _ (by decide) (by decide), at_p _ (by decide) (by decide), ez] at l1
      have l5 : ∀ x, 0 ≤ x → x < 3206 → x ≠ 3200 → (x < 3000 + 5 * (dz - 1) ∨ 3000 + 5 * (dz - 1) + 5 ≤ x) → blk kp (az - 1) x = st x := fun x x0 x1 y1 y2 => by
        have := l4 x x0 x1 y1 (by rw [at_p 3200 (by decide) (by decide)]; omega)
        rw [at_p x x0 x1, at_q x x0 x1] at this
        exact this
      have pz := (hC.2.1 (az - 1) (by omega) (by omega)).2.2.2.2.1
      rw [Sq_l (by omega), at_p 3200 (by decide) (by decide)] at pz
      refine ⟨az - 1, 0, le, mo, gc, bc, rc, g, b, op, dz - 1, dr, dl, az - 1, st', cls (le, mo, gc, bc, rc, g, b, op, dz - 1, dr, dl) ?_, u1, undo_fin hA (by omega) u2 ⟨keepP (fun k k0 k1 => l5 k k0 (by omega) (by omega) (by omega)), keepR (fun k k0 k1 => l5 k (by omega) k1 (by omega) (by omega))⟩ ⟨by omega, fun i i0 i1 => ?_⟩ (fun j i _ _ _ _ _ _ => Iff.rfl) (fun i i0 i1 => hdl i i0 (by omega)), Or.inl rfl⟩
      · have dl1 : m_X2_dropLast N dz = some (dz - 1) := by
          rw [m_X2_dropLast]
          repeat (first | (with_reducible refine gd_ok ?_ ?_; focus (first | omega | assumption | ((repeat' refine And.intro ?_ ?_) <;> first | omega | assumption) | fail)) | (with_reducible refine ip_ok ?_ ?_; focus (first | omega | assumption | ((repeat' refine And.intro ?_ ?_) <;> first | omega | assumption) | fail)) | (with_reducible refine in_ok ?_ ?_; focus (first | omega | assumption | ((repeat' refine And.intro ?_ ?_) <;> first | omega | assumption) | fail)) | (rw [so_bd]; try dsimp only))
          all_goals rfl
        rw [m_X12_turnBack, l0]
        repeat (first | (with_reducible refine gd_ok ?_ ?_; focus (first | omega | assumption | ((repeat' refine And.intro ?_ ?_) <;> first | omega | assumption) | fail)) | (with_reducible refine ip_ok ?_ ?_; focus (first | omega | assumption | ((repeat' refine And.intro ?_ ?_) <;> first | omega | assumption) | fail)) | (with_reducible refine in_ok ?_ ?_; focus (first | omega | assumption | ((repeat' refine And.intro ?_ ?_) <;> first | omega | assumption) | fail)) | (rw [dl1, so_bd]; try dsimp only) | (rw [so_bd]; try dsimp only))
        all_goals rfl
      · rw [l5 (3000 + 5 * i) (by omega) (by omega) (by omega) (by omega), l5 (3000 + 5 * i + 1) (by omega) (by omega) (by omega) (by omega), l5 (3000 + 5 * i + 2) (by omega) (by omega) (by omega) (by omega), l5 (3000 + 5 * i + 3) (by omega) (by omega) (by omega) (by omega), l5 (3000 + 5 * i + 4) (by omega) (by omega) (by omega) (by omega)]
        exact hD.2 i i0 (by omega)
    · obtain ⟨l0, l1, l2, l4⟩ := L
      rw [at_q _ (by decide) (by decide), ez] at l1
      rw [at_p _ (by omega) (by omega)] at l2
      have l5 : ∀ x, 0 ≤ x → x < 3206 → x ≠ 3000 + 5 * a1 (az - 1) + 3 → blk kp (az - 1) x = st x := fun x x0 x1 y1 => by
        have := l4 x x0 x1 y1
        rw [at_p x x0 x1, at_q x x0 x1] at this
        exact this
      have ra : rI (a1 (az - 1)) := ⟨by omega, by omega⟩
      refine ⟨az - 1, 0, le, mo, gc, bc, rc, g, b, op, dz, uP dr (a1 (az - 1)) (-1), dl, az - 1, st', cls (le, mo, gc, bc, rc, g, b, op, dz, uP dr (a1 (az - 1)) (-1), dl) ?_, u1, undo_fin hA (by omega) u2 ⟨keepP (fun k k0 k1 => l5 k k0 (by omega) (by omega)), keepR (fun k k0 k1 => l5 k (by omega) k1 (by omega))⟩ ⟨by rw [l5 3200 (by decide) (by decide) (by omega)]; exact ez, fun i i0 i1 => ?_⟩ (fun j i _ _ _ _ _ _ => Iff.rfl) hdl, Or.inl rfl⟩
      · have fg : m_X2_forget N dz dr (a1 (az - 1)) = some (uP dr (a1 (az - 1)) (-1)) := by
          rw [m_X2_forget]
          repeat (first | (with_reducible refine gd_ok ?_ ?_; focus (first | omega | assumption | ((repeat' refine And.intro ?_ ?_) <;> first | omega | assumption) | fail)) | (with_reducible refine ip_ok ?_ ?_; focus (first | omega | assumption | ((repeat' refine And.intro ?_ ?_) <;> first | omega | assumption) | fail)) | (with_reducible refine in_ok ?_ ?_; focus (first | omega | assumption | ((repeat' refine And.intro ?_ ?_) <;> first | omega | assumption) | fail)) | (rw [dhas1 ra ⟨by omega, by omega⟩ l1, so_bd]; try dsimp only) | (rw [so_bd]; try dsimp only))
          all_goals rfl
        rw [m_X12_turnBack, l0]
        repeat (first | (with_reducible refine gd_ok ?_ ?_; focus (first | omega | assumption | ((repeat' refine And.intro ?_ ?_) <;> first | omega | assumption) | fail)) | (with_reducible refine ip_ok ?_ ?_; focus (first | omega | assumption | ((repeat' refine And.intro ?_ ?_) <;> first | omega | assumption) | fail)) | (with_reducible refine in_ok ?_ ?_; focus (first | omega | assumption | ((repeat' refine And.intro ?_ ?_) <;> first | omega | assumption) | fail)) | (rw [fg, so_bd]; try dsimp only) | (rw [so_bd]; try dsimp only))
        all_goals rfl
      · have q := hD.2 i i0 i1
        rw [l5 (3000 + 5 * i) (by omega) (by omega) (by omega), l5 (3000 + 5 * i + 1) (by omega) (by omega) (by omega), l5 (3000 + 5 * i + 2) (by omega) (by omega) (by omega), l5 (3000 + 5 * i + 4) (by omega) (by omega) (by omega)]
        by_cases e : i = a1 (az - 1)
        · rw [e] at q ⊢
          rw [uP_s, l2]
          exact ⟨q.1, q.2.1, q.2.2.1, rfl, q.2.2.2.2⟩
        · rw [uP_o _ _ e, l5 (3000 + 5 * i + 3) (by omega) (by omega) (by omega)]
          exact q
    · obtain ⟨l0, l1, l2, l3, l4⟩ := L
      rw [at_q _ (by decide) (by decide), ez] at l3 l4
      have la := hC.2.2.2.2.1 (az - 1) (by omega) (by omega) l0
      have ra : rI (a1 (az - 1)) := ⟨by omega, by omega⟩
      have hd0 : ∀ i, 0 ≤ i → i < dz → (0 ≤ ds i ∧ ds i < 1000) ∧ (-1 ≤ dr i ∧ dr i ≤ 1) ∧ rI (dl i) := by
        intro i i0 i1
        obtain ⟨t0, t1, t2, t3, t4⟩ := hD.2 i i0 i1
        have q := hV.2.2.2.2.2 i i0 (by omega)
        rw [t0, t3] at q
        have := hdl i i0 i1
        exact ⟨q.1, by omega, ⟨by omega, by omega⟩⟩
      obtain ⟨g2, b2, x1, x2⟩ := dmove_ok (N := N) (ds := ds) (dr := dr) (lb := dl) (dz := dz) (act := a1 (az - 1)) (sign := -1) (g := g) (b := b) hN hz hd0 ra
      obtain ⟨lb2, y1, y2⟩ := unmark_ok (N := N) (dz := dz) (lb := dl) (act := a1 (az - 1)) hN hz (fun i i0 i1 => (hd0 i i0 i1).2.2) ra
      have cq : ∀ w s, cntR (nrm st) dl (a1 (az - 1)) w s = cntC dl ds dr (a1 (az - 1)) w s dz := by
        intro w s
        unfold cntR cntC
        rw [at_q _ (by decide) (by decide), ez]
        refine sI_congr (fun j j0 j1 => ?_)
        obtain ⟨t0, -, -, t3, -⟩ := hD.2 j j0 j1
        show (if dl j = a1 (az - 1) ∧ nrm st (3000 + 5 * j) = s ∧ nrm st (3000 + 5 * j + 3) = w then (1 : Int) else 0) = _
        rw [at_q _ (by omega) (by omega), at_q _ (by omega) (by omega), t0, t3]
      have l5 : ∀ x, 3000 ≤ x → x < 3206 → (∀ i, 0 ≤ i → i < dz → x ≠ 3000 + 5 * i + 4) → blk kp (az - 1) x = st x := fun x x0 x9 hx => by
        have := l3 x x0 x9 hx
        rw [at_p x (by omega) x9, at_q x (by omega) x9] at this
        exact this
      refine ⟨az - 1, 0, le, mo, gc, bc, rc, g2, b2, op, dz, dr, lb2, az - 1, st', cls (le, mo, gc, bc, rc, g2, b2, op, dz, dr, lb2) ?_, u1, undo_fin hA (by omega) u2 ⟨fun s s0 s1 => ?_, keepR (fun k k0 k1 => l5 k (by omega) k1 (fun i i0 i1 => by omega))⟩ ⟨by rw [l5 3200 (by decide) (by decide) (fun i i0 i1 => by omega)]; exact ez, fun i i0 i1 => ?_⟩ (fun j i j0 j1 j6 jp i0 i1 => ?_) (fun i i0 i1 => ?_), Or.inl rfl⟩
      · rw [m_X12_turnBack, l0]
        repeat (first | (with_reducible refine gd_ok ?_ ?_; focus (first | omega | assumption | ((repeat' refine And.intro ?_ ?_) <;> first | omega | assumption) | fail)) | (with_reducible refine ip_ok ?_ ?_; focus (first | omega | assumption | ((repeat' refine And.intro ?_ ?_) <;> first | omega | assumption) | fail)) | (with_reducible refine in_ok ?_ ?_; focus (first | omega | assumption | ((repeat' refine And.intro ?_ ?_) <;> first | omega | assumption) | fail)) | (rw [x1, so_bd]; try dsimp only) | (rw [y1, so_bd]; try dsimp only) | (rw [so_bd]; try dsimp only))
        all_goals rfl
      · obtain ⟨p1, p2, p3⟩ := l2 s s0 s1
        rw [at_p _ s0 (by omega), at_q _ s0 (by omega), cq] at p1
        rw [at_p _ (by omega) (by omega), at_q _ (by omega) (by omega), cq] at p2
        rw [at_p _ (by omega) (by omega), at_q _ (by omega) (by omega)] at p3
        obtain ⟨o1, o2, o3⟩ := hP.1 s s0 s1
        obtain ⟨q1, q2⟩ := x2 s
        rw [p1, p2, p3, q1, q2, o1, o2, o3, Int.neg_mul, Int.neg_mul, Int.one_mul, Int.one_mul]
        exact ⟨by omega, by omega, rfl⟩
      · have q := hD.2 i i0 i1
        have z4 := l4 i i0 i1
        rw [at_p _ (by omega) (by omega), at_q _ (by omega) (by omega), q.2.2.2.2] at z4
        rw [l5 (3000 + 5 * i) (by omega) (by omega) (fun j j0 j1 => by omega), l5 (3000 + 5 * i + 1) (by omega) (by omega) (fun j j0 j1 => by omega), l5 (3000 + 5 * i + 2) (by omega) (by omega) (fun j j0 j1 => by omega), l5 (3000 + 5 * i + 3) (by omega) (by omega) (fun j j0 j1 => by omega), z4]
        refine ⟨q.1, q.2.1, q.2.2.1, q.2.2.2.1, ?_⟩
        rw [y2 i]
        by_cases e : dl i = a1 (az - 1)
        · have ww : (if (0 ≤ i ∧ i < dz) ∧ dl i = a1 (az - 1) then (0 : Int) else dl i) = 0 := if_pos ⟨⟨i0, i1⟩, e⟩
          rw [if_pos e, ww, if_pos rfl]
        · have ww : (if (0 ≤ i ∧ i < dz) ∧ dl i = a1 (az - 1) then (0 : Int) else dl i) = dl i := if_neg (fun z => e z.2)
          rw [if_neg e, ww]
      · rw [y2 i]
        have ne := hC.2.2.2.2.2 j (az - 1) j0 (by omega) (by omega) j6 l0
        by_cases e : dl i = a1 (az - 1)
        · rw [if_pos ⟨⟨i0, i1⟩, e⟩, e]
          constructor
          · intro z; omega
          · intro z; exact absurd z.symm ne
        · rw [if_neg (fun z => e z.2)]
      · rw [y2 i]
        by_cases e : dl i = a1 (az - 1)
        · rw [if_pos ⟨⟨i0, i1⟩, e⟩]; omega
        · rw [if_neg (fun z => e z.2)]; exact hdl i i0 i1
    · obtain ⟨l0, ⟨l1, l1'⟩, l2, l3⟩ := L
      obtain ⟨g2, b2, o2, x1, x2⟩ := imove_ok (N := N) (isc := isc) (iop := iop) (iba := iba) (iz := iz) (sign := -1) (g0 := g) (b0 := b) (o0 := op) hN l1 l1'
      have l5 : ∀ x, 3000 ≤ x → x < 3206 → blk kp (az - 1) x = st x := fun x x0 x9 => by
        have := l3 x x0 x9
        rw [at_p x (by omega) x9, at_q x (by omega) x9] at this
        exact this
      refine ⟨az - 1, 0, le, mo, gc, bc, rc, g2, b2, o2, dz, dr, dl, az - 1, st', cls (le, mo, gc, bc, rc, g2, b2, o2, dz, dr, dl) ?_, u1, undo_fin hA (by omega) u2 ⟨fun s s0 s1 => ?_, keepR (fun k k0 k1 => l5 k (by omega) k1)⟩ (keepD (fun k k0 k1 => l5 k k0 (by omega))) (fun j i _ _ _ _ _ _ => Iff.rfl) hdl, Or.inl rfl⟩
      · rw [m_X12_turnBack, l0]
        repeat (first | (with_reducible refine gd_ok ?_ ?_; focus (first | omega | assumption | ((repeat' refine And.intro ?_ ?_) <;> first | omega | assumption) | fail)) | (with_reducible refine ip_ok ?_ ?_; focus (first | omega | assumption | ((repeat' refine And.intro ?_ ?_) <;> first | omega | assumption) | fail)) | (with_reducible refine in_ok ?_ ?_; focus (first | omega | assumption | ((repeat' refine And.intro ?_ ?_) <;> first | omega | assumption) | fail)) | (rw [x1, so_bd]; try dsimp only) | (rw [so_bd]; try dsimp only))
        all_goals rfl
      · obtain ⟨p0, p1, p2, p3⟩ := l2 s s0 s1
        rw [at_q _ (by omega) (by omega)] at p0
        rw [at_p _ (by omega) (by omega)] at p1
        rw [at_p _ s0 (by omega), at_q _ s0 (by omega)] at p2
        rw [at_p _ (by omega) (by omega), at_q _ (by omega) (by omega)] at p3
        obtain ⟨q1, q2, q3⟩ := hP.1 s s0 s1
        obtain ⟨w1, w2, w3⟩ := x2 s
        rw [p1, p2, p3, w1, w2, w3, q1, q2, ← q3, p0, Int.neg_mul, Int.neg_mul, Int.neg_mul, Int.one_mul, Int.one_mul, Int.one_mul]
        exact ⟨by omega, by omega, by omega⟩
end
