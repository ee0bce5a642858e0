/-! acts: bounds, costs -/
section
variable {N : Nat} {st g b op ds dc da dr dl isc iop iba ak a1 a2 a3 kp was : Int → Int} {le mo gc bc rc dz ln iz az sd : Int}
theorem StV.rul {st' : Int → Int} (h : StV st) (e : ∀ k, 0 ≤ k → k < 3201 → st' k = st k) (h3' : (0 ≤ st' 3201 ∧ st' 3201 ≤ 9999) ∧ (1 ≤ st' 3202 ∧ st' 3202 ≤ 60) ∧ (0 ≤ st' 3203 ∧ st' 3203 ≤ 999) ∧ (0 ≤ st' 3204 ∧ st' 3204 ≤ 999) ∧ 0 ≤ st' 3205 ∧ st' 3205 ≤ 999) : StV st' := by
  obtain ⟨h1, h2, h3, h4, h5, h6⟩ := h
  have e0 := e 3200 (by decide) (by decide)
  refine ⟨h1.of (fun s s0 s1 => ⟨e s s0 (by omega), e (1000 + s) (by omega) (by omega)⟩), ⟨fun s s0 s1 => ?_, ?_⟩, h3', ?_, fun k k0 k1 => ?_, fun i i0 i1 => ?_⟩
  · rw [e (2000 + s) (by omega) (by omega)]
    exact h2.1 s s0 s1
  · have q : cn (fun s => st' (2000 + s)) (fun _ => 0) = cn (fun s => st (2000 + s)) (fun _ => 0) := rwN_congr 1000 (fun s s0 s1 => ⟨e (2000 + s) (by omega) (by omega), rfl⟩)
    rw [q]
    exact h2.2
  · rw [e0]; exact h4
  · rw [e k (by omega) (by omega)]
    exact h5 k k0 k1
  · rw [e0] at i1
    rw [e (3000 + 5 * i) (by omega) (by omega), e (3000 + 5 * i + 3) (by omega) (by omega), e (3000 + 5 * i + 4) (by omega) (by omega)]
    exact h6 i i0 i1
/-- an act that leaves counts and decisions -/
theorem act_rul (hN : 40000 ≤ N) (h : ARel st le mo gc bc rc g b op dz ds dc da dr dl ln iz isc iop iba az ak a1 a2 a3 kp) {st1 w : Int → Int} {le' mo' gc' bc' rc' v1 v2 v3 v4 d : Int} (hv1 : v1 ≠ 6 ∧ v1 ≠ 7) (w2 : ∀ k, 0 ≤ k → k < 3206 → w k = st k) (e : ∀ k, 0 ≤ k → k < 3201 → st1 k = st k) (hV1 : StV st1) (hr : st1 3201 = le' ∧ st1 3202 = mo' ∧ st1 3203 = gc' ∧ st1 3204 = bc' ∧ st1 3205 = rc') (hL : Link dl iz isc iop iba v1 v2 v3 v4 (nrm st) (nrm st1)) (hd : 0 ≤ d ∧ d < 3206) (hne : ¬ st1 d = st d) : ∃ az' ak' a1' a2' a3' kp', m_X12_acted N sd az ak a1 a2 a3 v1 v2 v3 v4 = some (0, az', ak', a1', a2', a3') ∧ m_X13_keeps N st1 w az kp = some (1, az', kp') ∧ ARel st1 le' mo' gc' bc' rc' g b op dz ds dc da dr dl ln iz isc iop iba az' ak' a1' a2' a3' kp' := by
  obtain ⟨hV, hP, hD, hC, hl, hdl⟩ := h
  have hn := hC.1
  have hz := hV.2.2.2.1
  have ez := hD.1
  have hw1 : ∀ k, 0 ≤ k → k < 3206 → rI (w k) := fun k k0 k1 => by rw [w2 k k0 k1]; exact hV.r k0 k1
  obtain ⟨az', b1, b2, b3, b4, q0, q1, q2, q3, q4⟩ := acted_ok (N := N) (sd := sd) (n := az) (v1 := v1) (v2 := v2) (v3 := v3) (v4 := v4) (k1 := ak) (k2 := a1) (k3 := a2) (k4 := a3) hn
  obtain ⟨km', kp', k1, k2⟩ := keeps_ok (N := N) (kp := kp) hN hn (fun k k0 k1 => ⟨hV1.r k0 k1, hw1 k k0 k1⟩) hd (by rw [w2 d hd.1 hd.2]; exact hne)
  have ekm : km' = az' := by
    by_cases z : az < 10
    · have := (k2.1 z).1; have := (q1.1 z).1; omega
    · have := (k2.2 (by omega)).1; have := (q1.2 (by omega)).1; omega
  rw [ekm] at k1 k2
  have e0 : st1 3200 = st 3200 := e 3200 (by decide) (by decide)
  have hC' := hC.push hV (ln' := ln) k2 w2 q1 q2 q3 q4 hL (by omega) (fun hq s s0 s1 => by
    rw [e (2000 + s) (by omega) (by omega)]
    rcases hq with ⟨j, jb, j7⟩ | hq
    · have := hC.2.2.2.1 j az jb.1 jb.2 (Int.le_refl _) j7 s s0 s1
      rw [Sq_n (by omega), nrm_at (by omega) (by omega)] at this
      exact this
    · exact absurd hq hv1.2) ⟨Int.le_refl _, fun q => absurd q hv1.1⟩ (fun j j0 j1 q => q)
  refine ⟨az', b1, b2, b3, b4, kp', q0, k1, hV1, ⟨fun s s0 s1 => ?_, hr⟩, ⟨e0.trans hD.1, fun i i0 i1 => ?_⟩, hC', hl, hdl⟩
  · rw [e s s0 (by omega), e (1000 + s) (by omega) (by omega), e (2000 + s) (by omega) (by omega)]
    exact hP.1 s s0 s1
  · rw [e (3000 + 5 * i) (by omega) (by omega), e (3000 + 5 * i + 1) (by omega) (by omega), e (3000 + 5 * i + 2) (by omega) (by omega), e (3000 + 5 * i + 3) (by omega) (by omega), e (3000 + 5 * i + 4) (by omega) (by omega)]
    exact hD.2 i i0 i1
set_option maxHeartbeats 4000000 in
theorem s_sets (hN : 40000 ≤ N) (h : ARel st le mo gc bc rc g b op dz ds dc da dr dl ln iz isc iop iba az ak a1 a2 a3 kp) {x1 x2 : Int} (hx1 : rI x1) (hx2 : rI x2) : ∃ a sd' le' mo' az' ak' a1' a2' a3' st' kp' w', m_X12_sets N sd le mo az ak a1 a2 a3 x1 x2 = some (a, sd', le', mo', az', ak', a1', a2', a3') ∧ m_X13_sets N az st kp was x1 x2 = some (a, az', st', kp', w') ∧ ARel st' le' mo' gc bc rc g b op dz ds dc da dr dl ln iz isc iop iba az' ak' a1' a2' a3' kp' ∧ (sd' = 0 ∨ (sd' = sd ∧ le' = le ∧ mo' = mo)) := by
  have hA := h
  obtain ⟨hV, hP, hD, hC, hl, hdl⟩ := h
  have hR := hV.2.2.1
  obtain ⟨-, r1, r2, r3, r4, r5⟩ := hP
  by_cases c1 : 0 ≤ x1 ∧ x1 ≤ 1
  · have i1 := in1 (N := N) (v := x1) (lo := 0) (hi := 1) (rI_L hx1) ⟨by decide, by decide⟩ ⟨by decide, by decide⟩ c1
    by_cases c2 : (x1 = 0 ∧ 0 ≤ x2 ∧ x2 ≤ 9999) ∨ (x1 = 1 ∧ 1 ≤ x2 ∧ x2 ≤ 60)
    · obtain ⟨w, w1, w2⟩ := remembers_ok (N := N) hN (st := st) (was := was)
      have ebf : st (3201 + x1) = if x1 = 0 then le else mo := by
        rcases (by omega : x1 = 0 ∨ x1 = 1) with e | e
        · rw [e, if_pos rfl]; exact r1
        · rw [e, if_neg (by decide)]; exact r2
      have hsR : rI (st (3201 + x1)) := hV.r (by omega) (by omega)
      have cls : ∀ r, m_X12_sets_b73 N x1 x2 sd le mo az ak a1 a2 a3 (st (3201 + x1)) = some r → m_X12_sets N sd le mo az ak a1 a2 a3 x1 x2 = some r := by
        intro r hr
        rw [m_X12_sets]
        rcases (by omega : x1 = 0 ∨ x1 = 1) with e | e
        · subst e
          rw [ebf, if_pos rfl] at hr
          repeat (first | (with_reducible refine gd_ok ?_ ?_; focus (first | omega | assumption | ((repeat' refine And.intro ?_ ?_) <;> first | omega | assumption) | fail)) | (with_reducible refine ip_ok ?_ ?_; focus (first | omega | assumption | ((repeat' refine And.intro ?_ ?_) <;> first | omega | assumption) | fail)) | (with_reducible refine in_ok ?_ ?_; focus (first | omega | assumption | ((repeat' refine And.intro ?_ ?_) <;> first | omega | assumption) | fail)) | (rw [so_bd]; try dsimp only))
          rw [m_X12_sets_b44]
          repeat (first | (with_reducible refine gd_ok ?_ ?_; focus (first | omega | assumption | ((repeat' refine And.intro ?_ ?_) <;> first | omega | assumption) | fail)) | (with_reducible refine ip_ok ?_ ?_; focus (first | omega | assumption | ((repeat' refine And.intro ?_ ?_) <;> first | omega | assumption) | fail)) | (with_reducible refine in_ok ?_ ?_; focus (first | omega | assumption | ((repeat' refine And.intro ?_ ?_) <;> first | omega | assumption) | fail)) | (rw [so_bd]; try dsimp only))
          exact hr
        · subst e
          rw [ebf, if_neg (by decide)] at hr
          repeat (first | (with_reducible refine gd_ok ?_ ?_; focus (first | omega | assumption | ((repeat' refine And.intro ?_ ?_) <;> first | omega | assumption) | fail)) | (with_reducible refine ip_ok ?_ ?_; focus (first | omega | assumption | ((repeat' refine And.intro ?_ ?_) <;> first | omega | assumption) | fail)) | (with_reducible refine in_ok ?_ ?_; focus (first | omega | assumption | ((repeat' refine And.intro ?_ ?_) <;> first | omega | assumption) | fail)) | (rw [so_bd]; try dsimp only))
          rw [m_X12_sets_b44]
          repeat (first | (with_reducible refine gd_ok ?_ ?_; focus (first | omega | assumption | ((repeat' refine And.intro ?_ ?_) <;> first | omega | assumption) | fail)) | (with_reducible refine ip_ok ?_ ?_; focus (first | omega | assumption | ((repeat' refine And.intro ?_ ?_) <;> first | omega | assumption) | fail)) | (with_reducible refine in_ok ?_ ?_; focus (first | omega | assumption | ((repeat' refine And.intro ?_ ?_) <;> first | omega | assumption) | fail)) | (rw [so_bd]; try dsimp only))
          exact hr
      have ref : ∀ r, m_X13_sets_b44 N x1 x2 az st kp was = some r → m_X13_sets N az st kp was x1 x2 = some r := by
        intro r hr
        rw [m_X13_sets]
        rcases (by omega : x1 = 0 ∨ x1 = 1) with e | e
        · have i2 := in1 (N := N) (v := x2) (lo := 0) (hi := 9999) (rI_L hx2) ⟨by decide, by decide⟩ ⟨by decide, by decide⟩ (by omega)
          repeat (first | (with_reducible refine gd_ok ?_ ?_; focus (first | omega | assumption | ((repeat' refine And.intro ?_ ?_) <;> first | omega | assumption) | fail)) | (with_reducible refine ip_ok ?_ ?_; focus (first | omega | assumption | ((repeat' refine And.intro ?_ ?_) <;> first | omega | assumption) | fail)) | (with_reducible refine in_ok ?_ ?_; focus (first | omega | assumption | ((repeat' refine And.intro ?_ ?_) <;> first | omega | assumption) | fail)) | (rw [i1, so_bd]; try dsimp only) | (rw [i2, so_bd]; try dsimp only) | (rw [so_bd]; try dsimp only))
          exact hr
        · have i2 := in1 (N := N) (v := x2) (lo := 1) (hi := 60) (rI_L hx2) ⟨by decide, by decide⟩ ⟨by decide, by decide⟩ (by omega)
          repeat (first | (with_reducible refine gd_ok ?_ ?_; focus (first | omega | assumption | ((repeat' refine And.intro ?_ ?_) <;> first | omega | assumption) | fail)) | (with_reducible refine ip_ok ?_ ?_; focus (first | omega | assumption | ((repeat' refine And.intro ?_ ?_) <;> first | omega | assumption) | fail)) | (with_reducible refine in_ok ?_ ?_; focus (first | omega | assumption | ((repeat' refine And.intro ?_ ?_) <;> first | omega | assumption) | fail)) | (rw [i1, so_bd]; try dsimp only) | (rw [i2, so_bd]; try dsimp only) | (rw [so_bd]; try dsimp only))
          exact hr
      by_cases z : x2 = st (3201 + x1)
      · have es : ∀ k, 0 ≤ k → k < 3206 → uP st (3201 + x1) x2 k = st k := by
          intro k k0 k1
          by_cases e : k = 3201 + x1
          · rw [e, uP_s, z]
          · rw [uP_o _ _ e]
        have k1 := keeps_no (N := N) (st := uP st (3201 + x1) x2) (was := w) (kp := kp) (km := az) hN (fun k k0 k1 => ⟨by rw [es k k0 k1]; exact hV.r k0 k1, by rw [w2 k k0 k1]; exact hV.r k0 k1⟩) (fun k k0 k1 => by rw [es k k0 k1, w2 k k0 k1])
        refine ⟨st (3201 + x1), sd, le, mo, az, ak, a1, a2, a3, _, kp, w, cls _ ?_, ref _ ?_, hA.congr es, Or.inr ⟨rfl, rfl, rfl⟩⟩
        · rw [m_X12_sets_b73]
          repeat (first | (with_reducible refine gd_ok ?_ ?_; focus (first | omega | assumption | ((repeat' refine And.intro ?_ ?_) <;> first | omega | assumption) | fail)) | (with_reducible refine ip_ok ?_ ?_; focus (first | omega | assumption | ((repeat' refine And.intro ?_ ?_) <;> first | omega | assumption) | fail)) | (with_reducible refine in_ok ?_ ?_; focus (first | omega | assumption | ((repeat' refine And.intro ?_ ?_) <;> first | omega | assumption) | fail)) | (rw [so_bd]; try dsimp only))
          all_goals rfl
        · rw [m_X13_sets_b44]
          repeat (first | (with_reducible refine gd_ok ?_ ?_; focus (first | omega | assumption | ((repeat' refine And.intro ?_ ?_) <;> first | omega | assumption) | fail)) | (with_reducible refine ip_ok ?_ ?_; focus (first | omega | assumption | ((repeat' refine And.intro ?_ ?_) <;> first | omega | assumption) | fail)) | (with_reducible refine in_ok ?_ ?_; focus (first | omega | assumption | ((repeat' refine And.intro ?_ ?_) <;> first | omega | assumption) | fail)) | (rw [w1, so_bd]; try dsimp only) | (rw [k1, so_bd]; try dsimp only) | (rw [so_bd]; try dsimp only))
          all_goals rfl
      · have v3 : ∀ k, k ≠ 3201 + x1 → uP st (3201 + x1) x2 k = st k := fun k q => uP_o _ _ q
        have v1 : uP st (3201 + x1) x2 (3201 + x1) = x2 := uP_s _ _ _
        have hL : Link dl iz isc iop iba 2 x1 (st (3201 + x1)) 0 (nrm st) (nrm (uP st (3201 + x1) x2)) := by
          refine Or.inr (Or.inl ⟨rfl, by omega, nrm_at (by omega) (by omega), fun x x0 x3 y => ?_⟩)
          rw [nrm_at x0 x3, nrm_at x0 x3, v3 x y]
        rcases (by omega : x1 = 0 ∨ x1 = 1) with e | e
        · subst e
          have hV1 : StV (uP st (3201 + 0) x2) := hV.rul (fun k k0 k1 => v3 k (by omega)) (by
            have q := v1
            rw [show (3201 : Int) + 0 = 3201 by decide] at q v3 ⊢
            rw [q, v3 3202 (by decide), v3 3203 (by decide), v3 3204 (by decide), v3 3205 (by decide)]
            omega)
          obtain ⟨az', ak', a1', a2', a3', kp', q1, q2, q3⟩ := act_rul (N := N) (sd := sd) (le' := x2) (mo' := mo) (gc' := gc) (bc' := bc) (rc' := rc) hN hA (v1 := 2) ⟨by decide, by decide⟩ w2 (fun k k0 k1 => v3 k (by omega)) hV1 ⟨v1, (v3 3202 (by decide)).trans r2, (v3 3203 (by decide)).trans r3, (v3 3204 (by decide)).trans r4, (v3 3205 (by decide)).trans r5⟩ hL (d := 3201 + 0) ⟨by decide, by decide⟩ (by rw [v1]; exact z)
          have sb : m_X6_setBound N le mo 0 x2 = some (x2, mo) := by
            rw [m_X6_setBound]
            repeat (first | (with_reducible refine gd_ok ?_ ?_; focus (first | omega | assumption | ((repeat' refine And.intro ?_ ?_) <;> first | omega | assumption) | fail)) | (with_reducible refine ip_ok ?_ ?_; focus (first | omega | assumption | ((repeat' refine And.intro ?_ ?_) <;> first | omega | assumption) | fail)) | (with_reducible refine in_ok ?_ ?_; focus (first | omega | assumption | ((repeat' refine And.intro ?_ ?_) <;> first | omega | assumption) | fail)) | (rw [so_bd]; try dsimp only))
            all_goals rfl
          refine ⟨st (3201 + 0), 0, x2, mo, az', ak', a1', a2', a3', _, kp', w, cls _ ?_, ref _ ?_, q3, Or.inl rfl⟩
          · rw [m_X12_sets_b73]
            repeat (first | (with_reducible refine gd_ok ?_ ?_; focus (first | omega | assumption | ((repeat' refine And.intro ?_ ?_) <;> first | omega | assumption) | fail)) | (with_reducible refine ip_ok ?_ ?_; focus (first | omega | assumption | ((repeat' refine And.intro ?_ ?_) <;> first | omega | assumption) | fail)) | (with_reducible refine in_ok ?_ ?_; focus (first | omega | assumption | ((repeat' refine And.intro ?_ ?_) <;> first | omega | assumption) | fail)) | (rw [sb, so_bd]; try dsimp only) | (rw [q1, so_bd]; try dsimp only) | (rw [so_bd]; try dsimp only))
            all_goals rfl
          · rw [m_X13_sets_b44]
            repeat (first | (with_reducible refine gd_ok ?_ ?_; focus (first | omega | assumption | ((repeat' refine And.intro ?_ ?_) <;> first | omega | assumption) | fail)) | (with_reducible refine ip_ok ?_ ?_; focus (first | omega | assumption | ((repeat' refine And.intro ?_ ?_) <;> first | omega | assumption) | fail)) | (with_reducible refine in_ok ?_ ?_; focus (first | omega | assumption | ((repeat' refine And.intro ?_ ?_) <;> first | omega | assumption) | fail)) | (rw [w1, so_bd]; try dsimp only) | (rw [q2, so_bd]; try dsimp only) | (rw [so_bd]; try dsimp only))
            all_goals rfl
        · subst e
          have hV1 : StV (uP st (3201 + 1) x2) := hV.rul (fun k k0 k1 => v3 k (by omega)) (by
            have q := v1
            rw [show (3201 : Int) + 1 = 3202 by decide] at q v3 ⊢
            rw [q, v3 3201 (by decide), v3 3203 (by decide), v3 3204 (by decide), v3 3205 (by decide)]
            omega)
          obtain ⟨az', ak', a1', a2', a3', kp', q1, q2, q3⟩ := act_rul (N := N) (sd := sd) (le' := le) (mo' := x2) (gc' := gc) (bc' := bc) (rc' := rc) hN hA (v1 := 2) ⟨by decide, by decide⟩ w2 (fun k k0 k1 => v3 k (by omega)) hV1 ⟨(v3 3201 (by decide)).trans r1, v1, (v3 3203 (by decide)).trans r3, (v3 3204 (by decide)).trans r4, (v3 3205 (by decide)).trans r5⟩ hL (d := 3201 + 1) ⟨by decide, by decide⟩ (by rw [v1]; exact z)
          have sb : m_X6_setBound N le mo 1 x2 = some (le, x2) := by
            rw [m_X6_setBound]
            repeat (first | (with_reducible refine gd_ok ?_ ?_; focus (first | omega | assumption | ((repeat' refine And.intro ?_ ?_) <;> first | omega | assumption) | fail)) | (with_reducible refine ip_ok ?_ ?_; focus (first | omega | assumption | ((repeat' refine And.intro ?_ ?_) <;> first | omega | assumption) | fail)) | (with_reducible refine in_ok ?_ ?_; focus (first | omega | assumption | ((repeat' refine And.intro ?_ ?_) <;> first | omega | assumption) | fail)) | (rw [so_bd]; try dsimp only))
            all_goals rfl
          refine ⟨st (3201 + 1), 0, le, x2, az', ak', a1', a2', a3', _, kp', w, cls _ ?_, ref _ ?_, q3, Or.inl rfl⟩
          · rw [m_X12_sets_b73]
            repeat (first | (with_reducible refine gd_ok ?_ ?_; focus (first | omega | assumption | ((repeat' refine And.intro ?_ ?_) <;> first | omega | assumption) | fail)) | (with_reducible refine ip_ok ?_ ?_; focus (first | omega | assumption | ((repeat' refine And.intro ?_ ?_) <;> first | omega | assumption) | fail)) | (with_reducible refine in_ok ?_ ?_; focus (first | omega | assumption | ((repeat' refine And.intro ?_ ?_) <;> first | omega | assumption) | fail)) | (rw [sb, so_bd]; try dsimp only) | (rw [q1, so_bd]; try dsimp only) | (rw [so_bd]; try dsimp only))
            all_goals rfl
          · rw [m_X13_sets_b44]
            repeat (first | (with_reducible refine gd_ok ?_ ?_; focus (first | omega | assumption | ((repeat' refine And.intro ?_ ?_) <;> first | omega | assumption) | fail)) | (with_reducible refine ip_ok ?_ ?_; focus (first | omega | assumption | ((repeat' refine And.intro ?_ ?_) <;> first | omega | assumption) | fail)) | (with_reducible refine in_ok ?_ ?_; focus (first | omega | assumption | ((repeat' refine And.intro ?_ ?_) <;> first | omega | assumption) | fail)) | (rw [w1, so_bd]; try dsimp only) | (rw [q2, so_bd]; try dsimp only) | (rw [so_bd]; try dsimp only))
            all_goals rfl
    · refine ⟨-2, sd, le, mo, az, ak, a1, a2, a3, st, kp, was, ?_, ?_, hA, Or.inr ⟨rfl, rfl, rfl⟩⟩
      · rw [m_X12_sets]
        rcases (by omega : x1 = 0 ∨ x1 = 1) with e | e
        · by_cases d : x2 < 0
          · repeat (first | (with_reducible refine gd_ok ?_ ?_; focus (first | omega | assumption | ((repeat' refine And.intro ?_ ?_) <;> first | omega | assumption) | fail)) | (with_reducible refine ip_ok ?_ ?_; focus (first | omega | assumption | ((repeat' refine And.intro ?_ ?_) <;> first | omega | assumption) | fail)) | (with_reducible refine in_ok ?_ ?_; focus (first | omega | assumption | ((repeat' refine And.intro ?_ ?_) <;> first | omega | assumption) | fail)) | (rw [so_bd]; try dsimp only))
            rw [m_X12_sets_b19, m_X12_sets_b44]
            repeat (first | (with_reducible refine gd_ok ?_ ?_; focus (first | omega | assumption | ((repeat' refine And.intro ?_ ?_) <;> first | omega | assumption) | fail)) | (with_reducible refine ip_ok ?_ ?_; focus (first | omega | assumption | ((repeat' refine And.intro ?_ ?_) <;> first | omega | assumption) | fail)) | (with_reducible refine in_ok ?_ ?_; focus (first | omega | assumption | ((repeat' refine And.intro ?_ ?_) <;> first | omega | assumption) | fail)) | (rw [so_bd]; try dsimp only))
            all_goals rfl
          · repeat (first | (with_reducible refine gd_ok ?_ ?_; focus (first | omega | assumption | ((repeat' refine And.intro ?_ ?_) <;> first | omega | assumption) | fail)) | (with_reducible refine ip_ok ?_ ?_; focus (first | omega | assumption | ((repeat' refine And.intro ?_ ?_) <;> first | omega | assumption) | fail)) | (with_reducible refine in_ok ?_ ?_; focus (first | omega | assumption | ((repeat' refine And.intro ?_ ?_) <;> first | omega | assumption) | fail)) | (rw [so_bd]; try dsimp only))
            rw [m_X12_sets_b19, m_X12_sets_b44]
            repeat (first | (with_reducible refine gd_ok ?_ ?_; focus (first | omega | assumption | ((repeat' refine And.intro ?_ ?_) <;> first | omega | assumption) | fail)) | (with_reducible refine ip_ok ?_ ?_; focus (first | omega | assumption | ((repeat' refine And.intro ?_ ?_) <;> first | omega | assumption) | fail)) | (with_reducible refine in_ok ?_ ?_; focus (first | omega | assumption | ((repeat' refine And.intro ?_ ?_) <;> first | omega | assumption) | fail)) | (rw [so_bd]; try dsimp only))
            all_goals rfl
        · by_cases d : x2 < 1
          · repeat (first | (with_reducible refine gd_ok ?_ ?_; focus (first | omega | assumption | ((repeat' refine And.intro ?_ ?_) <;> first | omega | assumption) | fail)) | (with_reducible refine ip_ok ?_ ?_; focus (first | omega | assumption | ((repeat' refine And.intro ?_ ?_) <;> first | omega | assumption) | fail)) | (with_reducible refine in_ok ?_ ?_; focus (first | omega | assumption | ((repeat' refine And.intro ?_ ?_) <;> first | omega | assumption) | fail)) | (rw [so_bd]; try dsimp only))
            rw [m_X12_sets_b43, m_X12_sets_b44]
            repeat (first | (with_reducible refine gd_ok ?_ ?_; focus (first | omega | assumption | ((repeat' refine And.intro ?_ ?_) <;> first | omega | assumption) | fail)) | (with_reducible refine ip_ok ?_ ?_; focus (first | omega | assumption | ((repeat' refine And.intro ?_ ?_) <;> first | omega | assumption) | fail)) | (with_reducible refine in_ok ?_ ?_; focus (first | omega | assumption | ((repeat' refine And.intro ?_ ?_) <;> first | omega | assumption) | fail)) | (rw [so_bd]; try dsimp only))
            all_goals rfl
          · repeat (first | (with_reducible refine gd_ok ?_ ?_; focus (first | omega | assumption | ((repeat' refine And.intro ?_ ?_) <;> first | omega | assumption) | fail)) | (with_reducible refine ip_ok ?_ ?_; focus (first | omega | assumption | ((repeat' refine And.intro ?_ ?_) <;> first | omega | assumption) | fail)) | (with_reducible refine in_ok ?_ ?_; focus (first | omega | assumption | ((repeat' refine And.intro ?_ ?_) <;> first | omega | assumption) | fail)) | (rw [so_bd]; try dsimp only))
            rw [m_X12_sets_b43, m_X12_sets_b44]
            repeat (first | (with_reducible refine gd_ok ?_ ?_; focus (first | omega | assumption | ((repeat' refine And.intro ?_ ?_) <;> first | omega | assumption) | fail)) | (with_reducible refine ip_ok ?_ ?_; focus (first | omega | assumption | ((repeat' refine And.intro ?_ ?_) <;> first | omega | assumption) | fail)) | (with_reducible refine in_ok ?_ ?_; focus (first | omega | assumption | ((repeat' refine And.intro ?_ ?_) <;> first | omega | assumption) | fail)) | (rw [so_bd]; try dsimp only))
            all_goals rfl
      · rw [m_X13_sets]
        rcases (by omega : x1 = 0 ∨ x1 = 1) with e | e
        · have i2 := in0 (N := N) (v := x2) (lo := 0) (hi := 9999) (rI_L hx2) ⟨by decide, by decide⟩ ⟨by decide, by decide⟩ (by omega)
          repeat (first | (with_reducible refine gd_ok ?_ ?_; focus (first | omega | assumption | ((repeat' refine And.intro ?_ ?_) <;> first | omega | assumption) | fail)) | (with_reducible refine ip_ok ?_ ?_; focus (first | omega | assumption | ((repeat' refine And.intro ?_ ?_) <;> first | omega | assumption) | fail)) | (with_reducible refine in_ok ?_ ?_; focus (first | omega | assumption | ((repeat' refine And.intro ?_ ?_) <;> first | omega | assumption) | fail)) | (rw [i1, so_bd]; try dsimp only) | (rw [i2, so_bd]; try dsimp only) | (rw [so_bd]; try dsimp only))
          all_goals rfl
        · have i2 := in0 (N := N) (v := x2) (lo := 1) (hi := 60) (rI_L hx2) ⟨by decide, by decide⟩ ⟨by decide, by decide⟩ (by omega)
          repeat (first | (with_reducible refine gd_ok ?_ ?_; focus (first | omega | assumption | ((repeat' refine And.intro ?_ ?_) <;> first | omega | assumption) | fail)) | (with_reducible refine ip_ok ?_ ?_; focus (first | omega | assumption | ((repeat' refine And.intro ?_ ?_) <;> first | omega | assumption) | fail)) | (with_reducible refine in_ok ?_ ?_; focus (first | omega | assumption | ((repeat' refine And.intro ?_ ?_) <;> first | omega | assumption) | fail)) | (rw [i1, so_bd]; try dsimp only) | (rw [i2, so_bd]; try dsimp only) | (rw [so_bd]; try dsimp only))
          all_goals rfl
  · have i1 := in0 (N := N) (v := x1) (lo := 0) (hi := 1) (rI_L hx1) ⟨by decide, by decide⟩ ⟨by decide, by decide⟩ c1
    refine ⟨-2, sd, le, mo, az, ak, a1, a2, a3, st, kp, was, ?_, ?_, hA, Or.inr ⟨rfl, rfl, rfl⟩⟩
    · rw [m_X12_sets]
      repeat (first | (with_reducible refine gd_ok ?_ ?_; focus (first | omega | assumption | ((repeat' refine And.intro ?_ ?_) <;> first | omega | assumption) | fail)) | (with_reducible refine ip_ok ?_ ?_; focus (first | omega | assumption | ((repeat' refine And.intro ?_ ?_) <;> first | omega | assumption) | fail)) | (with_reducible refine in_ok ?_ ?_; focus (first | omega | assumption | ((repeat' refine And.intro ?_ ?_) <;> first | omega | assumption) | fail)) | (rw [so_bd]; try dsimp only))
      rw [m_X12_sets_b43, m_X12_sets_b44]
      repeat (first | (with_reducible refine gd_ok ?_ ?_; focus (first | omega | assumption | ((repeat' refine And.intro ?_ ?_) <;> first | omega | assumption) | fail)) | (with_reducible refine ip_ok ?_ ?_; focus (first | omega | assumption | ((repeat' refine And.intro ?_ ?_) <;> first | omega | assumption) | fail)) | (with_reducible refine in_ok ?_ ?_; focus (first | omega | assumption | ((repeat' refine And.intro ?_ ?_) <;> first | omega | assumption) | fail)) | (rw [so_bd]; try dsimp only))
      all_goals rfl
    · rw [m_X13_sets]
      repeat (first | (with_reducible refine gd_ok ?_ ?_; focus (first | omega | assumption | ((repeat' refine And.intro ?_ ?_) <;> first | omega | assumption) | fail)) | (with_reducible refine ip_ok ?_ ?_; focus (first | omega | assumption | ((repeat' refine And.intro ?_ ?_) <;> first | omega | assumption) | fail)) | (with_reducible refine in_ok ?_ ?_; focus (first | omega | assumption | ((repeat' refine And.intro ?_ ?_) <;> first | omega | assumption) | fail)) | (rw [i1, so_bd]; try dsimp only) | (rw [so_bd]; try dsimp only))
      all_goals rfl
set_option maxHeartbeats 4000000 in
theorem s_costs (hN : 40000 ≤ N) (h : ARel st le mo gc bc rc g b op dz ds dc da dr dl ln iz isc iop iba az ak a1 a2 a3 kp) {x1 x2 x3 : Int} (hx1 : rI x1) (hx2 : rI x2) (hx3 : rI x3) : ∃ a sd' gc' bc' rc' az' ak' a1' a2' a3' st' kp' w', m_X12_costs N sd gc bc rc az ak a1 a2 a3 x1 x2 x3 = some (a, sd', gc', bc', rc', az', ak', a1', a2', a3') ∧ m_X13_costs N az st kp was x1 x2 x3 = some (a, az', st', kp', w') ∧ ARel st' le mo gc' bc' rc' g b op dz ds dc da dr dl ln iz isc iop iba az' ak' a1' a2' a3' kp' ∧ (sd' = 0 ∨ sd' = sd) := by
  have hA := h
  obtain ⟨hV, hP, hD, hC, hl, hdl⟩ := h
  have hR := hV.2.2.1
  obtain ⟨-, r1, r2, r3, r4, r5⟩ := hP
  by_cases c1 : 0 ≤ x1 ∧ x1 ≤ 999
  · have i1 := in1 (N := N) (v := x1) (lo := 0) (hi := 999) (rI_L hx1) ⟨by decide, by decide⟩ ⟨by decide, by decide⟩ c1
    by_cases c2 : 0 ≤ x2 ∧ x2 ≤ 999
    · have i2 := in1 (N := N) (v := x2) (lo := 0) (hi := 999) (rI_L hx2) ⟨by decide, by decide⟩ ⟨by decide, by decide⟩ c2
      by_cases c3 : 0 ≤ x3 ∧ x3 ≤ 999
      · have i3 := in1 (N := N) (v := x3) (lo := 0) (hi := 999) (rI_L hx3) ⟨by decide, by decide⟩ ⟨by decide, by decide⟩ c3
        obtain ⟨w, w1, w2⟩ := remembers_ok (N := N) hN (st := st) (was := was)
        generalize hs1 : uP (uP (uP st 3203 x1) 3204 x2) 3205 x3 = st1
        have v1 : st1 3203 = x1 := by rw [← hs1, uP_o _ _ (by decide), uP_o _ _ (by decide), uP_s]
        have v2 : st1 3204 = x2 := by rw [← hs1, uP_o _ _ (by decide), uP_s]
        have v3 : st1 3205 = x3 := by rw [← hs1, uP_s]
        have v4 : ∀ k, k ≠ 3203 → k ≠ 3204 → k ≠ 3205 → st1 k = st k := fun k y1 y2 y3 => by rw [← hs1, uP_o _ _ y3, uP_o _ _ y2, uP_o _ _ y1]
        by_cases z : x1 = gc ∧ x2 = bc ∧ x3 = rc
        · have es : ∀ k, 0 ≤ k → k < 3206 → st1 k = st k := by
            intro k k0 k1
            by_cases e1 : k = 3203
            · rw [e1, v1, r3, z.1]
            · by_cases e2 : k = 3204
              · rw [e2, v2, r4, z.2.1]
              · by_cases e3 : k = 3205
                · rw [e3, v3, r5, z.2.2]
                · exact v4 k e1 e2 e3
          have k1 := keeps_no (N := N) (st := st1) (was := w) (kp := kp) (km := az) hN (fun k k0 k1 => ⟨by rw [es k k0 k1]; exact hV.r k0 k1, by rw [w2 k k0 k1]; exact hV.r k0 k1⟩) (fun k k0 k1 => by rw [es k k0 k1, w2 k k0 k1])
          refine ⟨0, sd, gc, bc, rc, az, ak, a1, a2, a3, st1, kp, w, ?_, ?_, hA.congr es, Or.inr rfl⟩
          · rw [m_X12_costs]
            repeat (first | (with_reducible refine gd_ok ?_ ?_; focus (first | omega | assumption | ((repeat' refine And.intro ?_ ?_) <;> first | omega | assumption) | fail)) | (with_reducible refine ip_ok ?_ ?_; focus (first | omega | assumption | ((repeat' refine And.intro ?_ ?_) <;> first | omega | assumption) | fail)) | (with_reducible refine in_ok ?_ ?_; focus (first | omega | assumption | ((repeat' refine And.intro ?_ ?_) <;> first | omega | assumption) | fail)) | (rw [isCost1 c1, so_bd]; try dsimp only) | (rw [isCost1 c2, so_bd]; try dsimp only) | (rw [isCost1 c3, so_bd]; try dsimp only) | (rw [so_bd]; try dsimp only))
            all_goals rfl
          · rw [m_X13_costs, hs1]
            repeat (first | (with_reducible refine gd_ok ?_ ?_; focus (first | omega | assumption | ((repeat' refine And.intro ?_ ?_) <;> first | omega | assumption) | fail)) | (with_reducible refine ip_ok ?_ ?_; focus (first | omega | assumption | ((repeat' refine And.intro ?_ ?_) <;> first | omega | assumption) | fail)) | (with_reducible refine in_ok ?_ ?_; focus (first | omega | assumption | ((repeat' refine And.intro ?_ ?_) <;> first | omega | assumption) | fail)) | (rw [i1, so_bd]; try dsimp only) | (rw [i2, so_bd]; try dsimp only) | (rw [i3, so_bd]; try dsimp only) | (rw [w1, so_bd]; try dsimp only) | (rw [k1, so_bd]; try dsimp only) | (rw [so_bd]; try dsimp only))
            all_goals rfl
        · have hL : Link dl iz isc iop iba 3 gc bc rc (nrm st) (nrm st1) := by
            refine Or.inr (Or.inr (Or.inl ⟨rfl, ?_, fun x x0 x9 => ?_⟩))
            · rw [nrm_at (by decide) (by decide), nrm_at (by decide) (by decide), nrm_at (by decide) (by decide)]
              exact ⟨r3, r4, r5⟩
            · rw [nrm_at x0 (by omega), nrm_at x0 (by omega), v4 x (by omega) (by omega) (by omega)]
          have hV1 : StV st1 := hV.rul (fun k k0 k1 => v4 k (by omega) (by omega) (by omega)) (by
            rw [v1, v2, v3, v4 3201 (by decide) (by decide) (by decide), v4 3202 (by decide) (by decide) (by decide)]
            omega)
          have dif : ∃ d, (0 ≤ d ∧ d < 3206) ∧ ¬ st1 d = st d := by
            by_cases y1 : x1 = gc
            · by_cases y2 : x2 = bc
              · exact ⟨3205, ⟨by decide, by decide⟩, by rw [v3, r5]; omega⟩
              · exact ⟨3204, ⟨by decide, by decide⟩, by rw [v2, r4]; omega⟩
            · exact ⟨3203, ⟨by decide, by decide⟩, by rw [v1, r3]; omega⟩
          obtain ⟨d, d1, d2⟩ := dif
          obtain ⟨az', ak', a1', a2', a3', kp', q1, q2, q3⟩ := act_rul (N := N) (sd := sd) (le' := le) (mo' := mo) (gc' := x1) (bc' := x2) (rc' := x3) hN hA (v1 := 3) ⟨by decide, by decide⟩ w2 (fun k k0 k1 => v4 k (by omega) (by omega) (by omega)) hV1 ⟨(v4 3201 (by decide) (by decide) (by decide)).trans r1, (v4 3202 (by decide) (by decide) (by decide)).trans r2, v1, v2, v3⟩ hL d1 d2
          have e5 : m_X12_costs_b59 N x1 x2 x3 sd gc bc rc az ak a1 a2 a3 = some (1, 0, x1, x2, x3, az', ak', a1', a2', a3') := by
            rw [m_X12_costs_b59]
            repeat (first | (with_reducible refine gd_ok ?_ ?_; focus (first | omega | assumption | ((repeat' refine And.intro ?_ ?_) <;> first | omega | assumption) | fail)) | (with_reducible refine ip_ok ?_ ?_; focus (first | omega | assumption | ((repeat' refine And.intro ?_ ?_) <;> first | omega | assumption) | fail)) | (with_reducible refine in_ok ?_ ?_; focus (first | omega | assumption | ((repeat' refine And.intro ?_ ?_) <;> first | omega | assumption) | fail)) | (rw [q1, so_bd]; try dsimp only) | (rw [so_bd]; try dsimp only))
            all_goals rfl
          refine ⟨1, 0, x1, x2, x3, az', ak', a1', a2', a3', st1, kp', w, ?_, ?_, q3, Or.inl rfl⟩
          · rw [m_X12_costs]
            by_cases y1 : x1 = gc
            · by_cases y2 : x2 = bc
              · repeat (first | (with_reducible refine gd_ok ?_ ?_; focus (first | omega | assumption | ((repeat' refine And.intro ?_ ?_) <;> first | omega | assumption) | fail)) | (with_reducible refine ip_ok ?_ ?_; focus (first | omega | assumption | ((repeat' refine And.intro ?_ ?_) <;> first | omega | assumption) | fail)) | (with_reducible refine in_ok ?_ ?_; focus (first | omega | assumption | ((repeat' refine And.intro ?_ ?_) <;> first | omega | assumption) | fail)) | (rw [isCost1 c1, so_bd]; try dsimp only) | (rw [isCost1 c2, so_bd]; try dsimp only) | (rw [isCost1 c3, so_bd]; try dsimp only) | (rw [so_bd]; try dsimp only))
                exact e5
              · repeat (first | (with_reducible refine gd_ok ?_ ?_; focus (first | omega | assumption | ((repeat' refine And.intro ?_ ?_) <;> first | omega | assumption) | fail)) | (with_reducible refine ip_ok ?_ ?_; focus (first | omega | assumption | ((repeat' refine And.intro ?_ ?_) <;> first | omega | assumption) | fail)) | (with_reducible refine in_ok ?_ ?_; focus (first | omega | assumption | ((repeat' refine And.intro ?_ ?_) <;> first | omega | assumption) | fail)) | (rw [isCost1 c1, so_bd]; try dsimp only) | (rw [isCost1 c2, so_bd]; try dsimp only) | (rw [isCost1 c3, so_bd]; try dsimp only) | (rw [so_bd]; try dsimp only))
                exact e5
            · repeat (first | (with_reducible refine gd_ok ?_ ?_; focus (first | omega | assumption | ((repeat' refine And.intro ?_ ?_) <;> first | omega | assumption) | fail)) | (with_reducible refine ip_ok ?_ ?_; focus (first | omega | assumption | ((repeat' refine And.intro ?_ ?_) <;> first | omega | assumption) | fail)) | (with_reducible refine in_ok ?_ ?_; focus (first | omega | assumption | ((repeat' refine And.intro ?_ ?_) <;> first | omega | assumption) | fail)) | (rw [isCost1 c1, so_bd]; try dsimp only) | (rw [isCost1 c2, so_bd]; try dsimp only) | (rw [isCost1 c3, so_bd]; try dsimp only) | (rw [so_bd]; try dsimp only))
              exact e5
          · rw [m_X13_costs, hs1]
            repeat (first | (with_reducible refine gd_ok ?_ ?_; focus (first | omega | assumption | ((repeat' refine And.intro ?_ ?_) <;> first | omega | assumption) | fail)) | (with_reducible refine ip_ok ?_ ?_; focus (first | omega | assumption | ((repeat' refine And.intro ?_ ?_) <;> first | omega | assumption) | fail)) | (with_reducible refine in_ok ?_ ?_; focus (first | omega | assumption | ((repeat' refine And.intro ?_ ?_) <;> first | omega | assumption) | fail)) | (rw [i1, so_bd]; try dsimp only) | (rw [i2, so_bd]; try dsimp only) | (rw [i3, so_bd]; try dsimp only) | (rw [w1, so_bd]; try dsimp only) | (rw [q2, so_bd]; try dsimp only) | (rw [so_bd]; try dsimp only))
            all_goals rfl
      · refine ⟨-2, sd, gc, bc, rc, az, ak, a1, a2, a3, st, kp, was, ?_, ?_, hA, Or.inr rfl⟩
        · rw [m_X12_costs]
          repeat (first | (with_reducible refine gd_ok ?_ ?_; focus (first | omega | assumption | ((repeat' refine And.intro ?_ ?_) <;> first | omega | assumption) | fail)) | (with_reducible refine ip_ok ?_ ?_; focus (first | omega | assumption | ((repeat' refine And.intro ?_ ?_) <;> first | omega | assumption) | fail)) | (with_reducible refine in_ok ?_ ?_; focus (first | omega | assumption | ((repeat' refine And.intro ?_ ?_) <;> first | omega | assumption) | fail)) | (rw [isCost1 c1, so_bd]; try dsimp only) | (rw [isCost1 c2, so_bd]; try dsimp only) | (rw [isCost0 hx3 c3, so_bd]; try dsimp only) | (rw [so_bd]; try dsimp only))
          all_goals rfl
        · rw [m_X13_costs]
          repeat (first | (with_reducible refine gd_ok ?_ ?_; focus (first | omega | assumption | ((repeat' refine And.intro ?_ ?_) <;> first | omega | assumption) | fail)) | (with_reducible refine ip_ok ?_ ?_; focus (first | omega | assumption | ((repeat' refine And.intro ?_ ?_) <;> first | omega | assumption) | fail)) | (with_reducible refine in_ok ?_ ?_; focus (first | omega | assumption | ((repeat' refine And.intro ?_ ?_) <;> first | omega | assumption) | fail)) | (rw [i1, so_bd]; try dsimp only) | (rw [i2, so_bd]; try dsimp only) | (rw [in0 (N := N) (v := x3) (lo := 0) (hi := 999) (rI_L hx3) ⟨by decide, by decide⟩ ⟨by decide, by decide⟩ c3, so_bd]; try dsimp only) | (rw [so_bd]; try dsimp only))
          all_goals rfl
    · refine ⟨-2, sd, gc, bc, rc, az, ak, a1, a2, a3, st, kp, was, ?_, ?_, hA, Or.inr rfl⟩
      · rw [m_X12_costs]
        repeat (first | (with_reducible refine gd_ok ?_ ?_; focus (first | omega | assumption | ((repeat' refine And.intro ?_ ?_) <;> first | omega | assumption) | fail)) | (with_reducible refine ip_ok ?_ ?_; focus (first | omega | assumption | ((repeat' refine And.intro ?_ ?_) <;> first | omega | assumption) | fail)) | (with_reducible refine in_ok ?_ ?_; focus (first | omega | assumption | ((repeat' refine And.intro ?_ ?_) <;> first | omega | assumption) | fail)) | (rw [isCost1 c1, so_bd]; try dsimp only) | (rw [isCost0 hx2 c2, so_bd]; try dsimp only) | (rw [so_bd]; try dsimp only))
        all_goals rfl
      · rw [m_X13_costs]
        repeat (first | (with_reducible refine gd_ok ?_ ?_; focus (first | omega | assumption | ((repeat' refine And.intro ?_ ?_) <;> first | omega | assumption) | fail)) | (with_reducible refine ip_ok ?_ ?_; focus (first | omega | assumption | ((repeat' refine And.intro ?_ ?_) <;> first | omega | assumption) | fail)) | (with_reducible refine in_ok ?_ ?_; focus (first | omega | assumption | ((repeat' refine And.intro ?_ ?_) <;> first | omega | assumption) | fail)) | (rw [i1, so_bd]; try dsimp only) | (rw [in0 (N := N) (v := x2) (lo := 0) (hi := 999) (rI_L hx2) ⟨by decide, by decide⟩ ⟨by decide, by decide⟩ c2, so_bd]; try dsimp only) | (rw [so_bd]; try dsimp only))
        all_goals rfl
  · refine ⟨-2, sd, gc, bc, rc, az, ak, a1, a2, a3, st, kp, was, ?_, ?_, hA, Or.inr rfl⟩
    · rw [m_X12_costs]
      repeat (first | (with_reducible refine gd_ok ?_ ?_; focus (first | omega | assumption | ((repeat' refine And.intro ?_ ?_) <;> first | omega | assumption) | fail)) | (with_reducible refine ip_ok ?_ ?_; focus (first | omega | assumption | ((repeat' refine And.intro ?_ ?_) <;> first | omega | assumption) | fail)) | (with_reducible refine in_ok ?_ ?_; focus (first | omega | assumption | ((repeat' refine And.intro ?_ ?_) <;> first | omega | assumption) | fail)) | (rw [isCost0 hx1 c1, so_bd]; try dsimp only) | (rw [so_bd]; try dsimp only))
      all_goals rfl
    · rw [m_X13_costs]
      repeat (first | (with_reducible refine gd_ok ?_ ?_; focus (first | omega | assumption | ((repeat' refine And.intro ?_ ?_) <;> first | omega | assumption) | fail)) | (with_reducible refine ip_ok ?_ ?_; focus (first | omega | assumption | ((repeat' refine And.intro ?_ ?_) <;> first | omega | assumption) | fail)) | (with_reducible refine in_ok ?_ ?_; focus (first | omega | assumption | ((repeat' refine And.intro ?_ ?_) <;> first | omega | assumption) | fail)) | (rw [in0 (N := N) (v := x1) (lo := 0) (hi := 999) (rI_L hx1) ⟨by decide, by decide⟩ ⟨by decide, by decide⟩ c1, so_bd]; try dsimp only) | (rw [so_bd]; try dsimp only))
      all_goals rfl
end
