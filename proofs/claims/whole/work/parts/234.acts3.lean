/-! acts: counts, bounds, costs, outcomes -/
def ARel (st : Int → Int) (le mo gc bc rc : Int) (g b op : Int → Int) (dz : Int) (ds dc da dr dl : Int → Int) (ln iz : Int) (isc iop iba : Int → Int) (az : Int) (ak a1 a2 a3 kp : Int → Int) : Prop := StV st ∧ PoR st le mo gc bc rc g b op ∧ DeR st dz ds dc da dr dl ∧ ChR dl iz isc iop iba ln ak a1 a2 a3 az kp st ∧ (0 ≤ ln ∧ ln ≤ 1000000) ∧ ∀ i, 0 ≤ i → i < dz → 0 ≤ dl i ∧ dl i ≤ ln
section
variable {N : Nat} {st g b op ds dc da dr dl isc iop iba ak a1 a2 a3 kp was : Int → Int} {le mo gc bc rc dz ln iz az sd : Int}
theorem ChR.congr {cur cur' : Int → Int} {n : Int} (h : ChR dl iz isc iop iba ln ak a1 a2 a3 n kp cur) (e : ∀ k, 0 ≤ k → k < 3206 → cur' k = cur k) : ChR dl iz isc iop iba ln ak a1 a2 a3 n kp cur' := by
  have q : ∀ l, Sq kp n cur' l = Sq kp n cur l := by
    intro l
    by_cases d : l < n
    · rw [Sq_l d, Sq_l d]
    · rw [Sq_n d, Sq_n d]
      exact nrm_eq e
  unfold ChR
  simp only [q]
  exact h
theorem ARel.congr {st' : Int → Int} (h : ARel st le mo gc bc rc g b op dz ds dc da dr dl ln iz isc iop iba az ak a1 a2 a3 kp) (e : ∀ k, 0 ≤ k → k < 3206 → st' k = st k) : ARel st' le mo gc bc rc g b op dz ds dc da dr dl ln iz isc iop iba az ak a1 a2 a3 kp := by
  obtain ⟨h1, h2, h3, h4, h5⟩ := h
  have hz := h1.2.2.2.1
  have ez := h3.1
  refine ⟨h1.congr e, ⟨fun s s0 s1 => ?_, ?_⟩, ⟨?_, fun i i0 i1 => ?_⟩, h4.congr e, h5⟩
  · rw [e s s0 (by omega), e (1000 + s) (by omega) (by omega), e (2000 + s) (by omega) (by omega)]
    exact h2.1 s s0 s1
  · rw [e 3201 (by decide) (by decide), e 3202 (by decide) (by decide), e 3203 (by decide) (by decide), e 3204 (by decide) (by decide), e 3205 (by decide) (by decide)]
    exact h2.2
  · rw [e 3200 (by decide) (by decide)]; exact h3.1
  · rw [e (3000 + 5 * i) (by omega) (by omega), e (3000 + 5 * i + 1) (by omega) (by omega), e (3000 + 5 * i + 2) (by omega) (by omega), e (3000 + 5 * i + 3) (by omega) (by omega), e (3000 + 5 * i + 4) (by omega) (by omega)]
    exact h3.2 i i0 i1
theorem isStep1 {c : Int} (h : -99 ≤ c ∧ c ≤ 99) : m_X12_isStep N c = some 1 ∧ m_X13_in N c (-99) 99 = some 1 := by
  refine ⟨?_, in1 ⟨by omega, by omega⟩ ⟨by decide, by decide⟩ ⟨by decide, by decide⟩ h⟩
  rw [m_X12_isStep]
  repeat (first | (with_reducible refine gd_ok ?_ ?_; focus (first | omega | assumption | ((repeat' refine And.intro ?_ ?_) <;> first | omega | assumption) | fail)) | (with_reducible refine ip_ok ?_ ?_; focus (first | omega | assumption | ((repeat' refine And.intro ?_ ?_) <;> first | omega | assumption) | fail)) | (with_reducible refine in_ok ?_ ?_; focus (first | omega | assumption | ((repeat' refine And.intro ?_ ?_) <;> first | omega | assumption) | fail)) | (rw [so_bd]; try dsimp only))
  all_goals rfl
theorem isStep0 {c : Int} (hr : rI c) (h : ¬ (-99 ≤ c ∧ c ≤ 99)) : m_X12_isStep N c = some 0 ∧ m_X13_in N c (-99) 99 = some 0 := by
  refine ⟨?_, in0 (rI_L hr) ⟨by decide, by decide⟩ ⟨by decide, by decide⟩ h⟩
  rw [m_X12_isStep]
  by_cases d : c < -99
  · repeat (first | (with_reducible refine gd_ok ?_ ?_; focus (first | omega | assumption | ((repeat' refine And.intro ?_ ?_) <;> first | omega | assumption) | fail)) | (with_reducible refine ip_ok ?_ ?_; focus (first | omega | assumption | ((repeat' refine And.intro ?_ ?_) <;> first | omega | assumption) | fail)) | (with_reducible refine in_ok ?_ ?_; focus (first | omega | assumption | ((repeat' refine And.intro ?_ ?_) <;> first | omega | assumption) | fail)) | (rw [so_bd]; try dsimp only))
    all_goals rfl
  · repeat (first | (with_reducible refine gd_ok ?_ ?_; focus (first | omega | assumption | ((repeat' refine And.intro ?_ ?_) <;> first | omega | assumption) | fail)) | (with_reducible refine ip_ok ?_ ?_; focus (first | omega | assumption | ((repeat' refine And.intro ?_ ?_) <;> first | omega | assumption) | fail)) | (with_reducible refine in_ok ?_ ?_; focus (first | omega | assumption | ((repeat' refine And.intro ?_ ?_) <;> first | omega | assumption) | fail)) | (rw [so_bd]; try dsimp only))
    all_goals rfl
/-- other counts of a state -/
theorem StV.cnt {st' : Int → Int} (h : StV st) (hf : Fit (fun s => st' s) (fun s => st' (1000 + s))) (e : ∀ k, 2000 ≤ k → k < 3206 → st' k = st k) : StV st' := by
  obtain ⟨h1, h2, h3, h4, h5, h6⟩ := h
  have e0 := e 3200 (by decide) (by decide)
  refine ⟨hf, ⟨fun s s0 s1 => ?_, ?_⟩, ?_, ?_, fun k k0 k1 => ?_, fun i i0 i1 => ?_⟩
  · rw [e (2000 + s) (by omega) (by omega)]
    exact h2.1 s s0 s1
  · have q : cn (fun s => st' (2000 + s)) (fun _ => 0) = cn (fun s => st (2000 + s)) (fun _ => 0) := rwN_congr 1000 (fun s s0 s1 => ⟨e (2000 + s) (by omega) (by omega), rfl⟩)
    rw [q]
    exact h2.2
  · rw [e 3201 (by decide) (by decide), e 3202 (by decide) (by decide), e 3203 (by decide) (by decide), e 3204 (by decide) (by decide), e 3205 (by decide) (by decide)]
    exact h3
  · rw [e0]; exact h4
  · rw [e k (by omega) (by omega)]
    exact h5 k k0 k1
  · rw [e0] at i1
    rw [e (3000 + 5 * i) (by omega) (by omega), e (3000 + 5 * i + 3) (by omega) (by omega), e (3000 + 5 * i + 4) (by omega) (by omega)]
    exact h6 i i0 i1
theorem Fit.of {g b g' b' : Int → Int} (h : Fit g b) (e : ∀ s, 0 ≤ s → s < 1000 → g' s = g s ∧ b' s = b s) : Fit g' b' := by
  refine ⟨fun s s0 s1 => by rw [(e s s0 s1).1, (e s s0 s1).2]; exact h.1 s s0 s1, ?_⟩
  have q : cn g' b' = cn g b := rwN_congr 1000 (fun s s0 s1 => e s s0 s1)
  rw [q]; exact h.2
set_option maxHeartbeats 4000000 in
theorem s_adds (hN : 40000 ≤ N) (h : ARel st le mo gc bc rc g b op dz ds dc da dr dl ln iz isc iop iba az ak a1 a2 a3 kp) {x1 x2 x3 : Int} (hx1 : rI x1) (hx2 : rI x2) (hx3 : rI x3) : ∃ a sd' g' b' az' ak' a1' a2' a3' st' kp' w', m_X12_adds N sd g b az ak a1 a2 a3 x1 x2 x3 = some (a, sd', g', b', az', ak', a1', a2', a3') ∧ m_X13_adds N az st kp was x1 x2 x3 = some (a, az', st', kp', w') ∧ ARel st' le mo gc bc rc g' b' op dz ds dc da dr dl ln iz isc iop iba az' ak' a1' a2' a3' kp' ∧ (sd' = 0 ∨ (sd' = sd ∧ g' = g ∧ b' = b)) := by
  have hA := h
  obtain ⟨hV, hP, hD, hC, hl, hdl⟩ := h
  have hn := hC.1
  have hF := hP.fit hV
  by_cases c1 : 0 ≤ x1 ∧ x1 < 1000
  · have i1 := isScore1 (N := N) c1
    by_cases c2 : -99 ≤ x2 ∧ x2 ≤ 99
    · have i2 := isStep1 (N := N) c2
      by_cases c3 : -99 ≤ x3 ∧ x3 ≤ 99
      · have i3 := isStep1 (N := N) c3
        obtain ⟨w, w1, w2⟩ := remembers_ok (N := N) hN (st := st) (was := was)
        obtain ⟨p1, p2, -⟩ := hP.1 x1 c1.1 c1.2
        have hFx := hF.1 x1 c1.1 c1.2
        generalize hs1 : uP (uP st (0 + x1) (st (0 + x1) + x2)) (1000 + x1) (uP st (0 + x1) (st (0 + x1) + x2) (1000 + x1) + x3) = st1
        have v1 : st1 x1 = g x1 + x2 := by rw [← hs1, Int.zero_add, uP_o _ _ (by omega), uP_s, p1]
        have v2 : st1 (1000 + x1) = b x1 + x3 := by rw [← hs1, Int.zero_add, uP_s, uP_o _ _ (by omega), p2]
        have v3 : ∀ k, k ≠ x1 → k ≠ 1000 + x1 → st1 k = st k := by
          intro k k1 k2
          rw [← hs1, Int.zero_add, uP_o _ _ k2, uP_o _ _ k1]
        have mv : m_X6_move N g b x1 x2 x3 = some (uP g x1 (g x1 + x2), uP b x1 (b x1 + x3)) := by
          rw [m_X6_move]
          repeat (first | (with_reducible refine gd_ok ?_ ?_; focus (first | omega | assumption | ((repeat' refine And.intro ?_ ?_) <;> first | omega | assumption) | fail)) | (with_reducible refine ip_ok ?_ ?_; focus (first | omega | assumption | ((repeat' refine And.intro ?_ ?_) <;> first | omega | assumption) | fail)) | (with_reducible refine in_ok ?_ ?_; focus (first | omega | assumption | ((repeat' refine And.intro ?_ ?_) <;> first | omega | assumption) | fail)) | (rw [so_bd]; try dsimp only))
          all_goals rfl
        have hsA : StA st1 (uP g x1 (g x1 + x2)) (uP b x1 (b x1 + x3)) := by
          intro s s0 s1
          by_cases e : s = x1
          · rw [e, uP_s, uP_s]; exact ⟨v1, v2⟩
          · rw [uP_o _ _ e, uP_o _ _ e, v3 s e (by omega), v3 (1000 + s) (by omega) (by omega)]
            exact hP.st s s0 s1
        obtain ⟨v, f1, f2, f3⟩ := fits_ok (N := N) hN hsA (fun s s0 s1 => by
          have q := hF.1 s s0 s1
          by_cases e : s = x1
          · rw [e, uP_s, uP_s]; omega
          · rw [uP_o _ _ e, uP_o _ _ e]; omega)
        have hw1 : ∀ k, 0 ≤ k → k < 3206 → rI (w k) := fun k k0 k1 => by rw [w2 k k0 k1]; exact hV.r k0 k1
        by_cases z : x2 = 0 ∧ x3 = 0
        · have es : ∀ k, 0 ≤ k → k < 3206 → st1 k = st k := by
            intro k k0 k1
            by_cases e1 : k = x1
            · rw [e1, v1, z.1, p1]; omega
            · by_cases e2 : k = 1000 + x1
              · rw [e2, v2, z.2, p2]; omega
              · exact v3 k e1 e2
          have eg : uP g x1 (g x1 + x2) = g := by
            funext k
            by_cases e : k = x1
            · rw [e, uP_s, z.1]; omega
            · rw [uP_o _ _ e]
          have eb : uP b x1 (b x1 + x3) = b := by
            funext k
            by_cases e : k = x1
            · rw [e, uP_s, z.2]; omega
            · rw [uP_o _ _ e]
          rw [eg, eb] at f3
          have ev : v = 1 := by
            rcases f3 with q | q
            · exact absurd hF q.2
            · exact q.1
          rw [ev] at f2
          have k1 := keeps_no (N := N) (st := st1) (was := w) (kp := kp) (km := az) hN (fun k k0 k1 => ⟨by rw [es k k0 k1]; exact hV.r k0 k1, hw1 k k0 k1⟩) (fun k k0 k1 => by rw [es k k0 k1, w2 k k0 k1])
          have e3 : m_X13_ends N w az st1 kp 0 = some (0, az, st1, kp) := by
            rw [m_X13_ends]
            repeat (first | (with_reducible refine gd_ok ?_ ?_; focus (first | omega | assumption | ((repeat' refine And.intro ?_ ?_) <;> first | omega | assumption) | fail)) | (with_reducible refine ip_ok ?_ ?_; focus (first | omega | assumption | ((repeat' refine And.intro ?_ ?_) <;> first | omega | assumption) | fail)) | (with_reducible refine in_ok ?_ ?_; focus (first | omega | assumption | ((repeat' refine And.intro ?_ ?_) <;> first | omega | assumption) | fail)) | (rw [f2, so_bd]; try dsimp only) | (rw [k1, so_bd]; try dsimp only) | (rw [so_bd]; try dsimp only))
            all_goals rfl
          refine ⟨0, sd, g, b, az, ak, a1, a2, a3, st1, kp, w, ?_, ?_, hA.congr es, Or.inr ⟨rfl, rfl, rfl⟩⟩
          · rw [m_X12_adds]
            repeat (first | (with_reducible refine gd_ok ?_ ?_; focus (first | omega | assumption | ((repeat' refine And.intro ?_ ?_) <;> first | omega | assumption) | fail)) | (with_reducible refine ip_ok ?_ ?_; focus (first | omega | assumption | ((repeat' refine And.intro ?_ ?_) <;> first | omega | assumption) | fail)) | (with_reducible refine in_ok ?_ ?_; focus (first | omega | assumption | ((repeat' refine And.intro ?_ ?_) <;> first | omega | assumption) | fail)) | (rw [i1.1, so_bd]; try dsimp only) | (rw [i2.1, so_bd]; try dsimp only) | (rw [i3.1, so_bd]; try dsimp only) | (rw [so_bd]; try dsimp only))
            all_goals rfl
          · rw [m_X13_adds, hs1]
            repeat (first | (with_reducible refine gd_ok ?_ ?_; focus (first | omega | assumption | ((repeat' refine And.intro ?_ ?_) <;> first | omega | assumption) | fail)) | (with_reducible refine ip_ok ?_ ?_; focus (first | omega | assumption | ((repeat' refine And.intro ?_ ?_) <;> first | omega | assumption) | fail)) | (with_reducible refine in_ok ?_ ?_; focus (first | omega | assumption | ((repeat' refine And.intro ?_ ?_) <;> first | omega | assumption) | fail)) | (rw [i1.2, so_bd]; try dsimp only) | (rw [i2.2, so_bd]; try dsimp only) | (rw [i3.2, so_bd]; try dsimp only) | (rw [w1, so_bd]; try dsimp only) | (rw [so_bd]; try dsimp only))
            rw [m_X13_adds_b82]
            repeat (first | (with_reducible refine gd_ok ?_ ?_; focus (first | omega | assumption | ((repeat' refine And.intro ?_ ?_) <;> first | omega | assumption) | fail)) | (with_reducible refine ip_ok ?_ ?_; focus (first | omega | assumption | ((repeat' refine And.intro ?_ ?_) <;> first | omega | assumption) | fail)) | (with_reducible refine in_ok ?_ ?_; focus (first | omega | assumption | ((repeat' refine And.intro ?_ ?_) <;> first | omega | assumption) | fail)) | (rw [e3, so_bd]; try dsimp only) | (rw [so_bd]; try dsimp only))
            all_goals rfl
        · have cls : ∀ r, m_X12_adds_b34 N x1 x2 x3 sd g b az ak a1 a2 a3 = some r → m_X12_adds N sd g b az ak a1 a2 a3 x1 x2 x3 = some r := by
            intro r hr
            by_cases z2 : x2 = 0
            · rw [m_X12_adds]
              repeat (first | (with_reducible refine gd_ok ?_ ?_; focus (first | omega | assumption | ((repeat' refine And.intro ?_ ?_) <;> first | omega | assumption) | fail)) | (with_reducible refine ip_ok ?_ ?_; focus (first | omega | assumption | ((repeat' refine And.intro ?_ ?_) <;> first | omega | assumption) | fail)) | (with_reducible refine in_ok ?_ ?_; focus (first | omega | assumption | ((repeat' refine And.intro ?_ ?_) <;> first | omega | assumption) | fail)) | (rw [i1.1, so_bd]; try dsimp only) | (rw [i2.1, so_bd]; try dsimp only) | (rw [i3.1, so_bd]; try dsimp only) | (rw [so_bd]; try dsimp only))
              exact hr
            · rw [m_X12_adds]
              repeat (first | (with_reducible refine gd_ok ?_ ?_; focus (first | omega | assumption | ((repeat' refine And.intro ?_ ?_) <;> first | omega | assumption) | fail)) | (with_reducible refine ip_ok ?_ ?_; focus (first | omega | assumption | ((repeat' refine And.intro ?_ ?_) <;> first | omega | assumption) | fail)) | (with_reducible refine in_ok ?_ ?_; focus (first | omega | assumption | ((repeat' refine And.intro ?_ ?_) <;> first | omega | assumption) | fail)) | (rw [i1.1, so_bd]; try dsimp only) | (rw [i2.1, so_bd]; try dsimp only) | (rw [i3.1, so_bd]; try dsimp only) | (rw [so_bd]; try dsimp only))
              exact hr
          have ref : ∀ r1 r2 r3 r4, m_X13_ends N w az st1 kp 1 = some (r1, r2, r3, r4) → m_X13_adds N az st kp was x1 x2 x3 = some (r1, r2, r3, r4, w) := by
            intro r1 r2 r3 r4 hr
            have e4 : m_X13_adds_b77 N x1 x2 x3 az st1 kp w = some (r1, r2, r3, r4, w) := by
              rw [m_X13_adds_b77, m_X13_adds_b82]
              repeat (first | (with_reducible refine gd_ok ?_ ?_; focus (first | omega | assumption | ((repeat' refine And.intro ?_ ?_) <;> first | omega | assumption) | fail)) | (with_reducible refine ip_ok ?_ ?_; focus (first | omega | assumption | ((repeat' refine And.intro ?_ ?_) <;> first | omega | assumption) | fail)) | (with_reducible refine in_ok ?_ ?_; focus (first | omega | assumption | ((repeat' refine And.intro ?_ ?_) <;> first | omega | assumption) | fail)) | (rw [hr, so_bd]; try dsimp only) | (rw [so_bd]; try dsimp only))
              all_goals rfl
            by_cases z2 : x2 = 0
            · rw [m_X13_adds, hs1]
              repeat (first | (with_reducible refine gd_ok ?_ ?_; focus (first | omega | assumption | ((repeat' refine And.intro ?_ ?_) <;> first | omega | assumption) | fail)) | (with_reducible refine ip_ok ?_ ?_; focus (first | omega | assumption | ((repeat' refine And.intro ?_ ?_) <;> first | omega | assumption) | fail)) | (with_reducible refine in_ok ?_ ?_; focus (first | omega | assumption | ((repeat' refine And.intro ?_ ?_) <;> first | omega | assumption) | fail)) | (rw [i1.2, so_bd]; try dsimp only) | (rw [i2.2, so_bd]; try dsimp only) | (rw [i3.2, so_bd]; try dsimp only) | (rw [w1, so_bd]; try dsimp only) | (rw [so_bd]; try dsimp only))
              exact e4
            · rw [m_X13_adds, hs1]
              repeat (first | (with_reducible refine gd_ok ?_ ?_; focus (first | omega | assumption | ((repeat' refine And.intro ?_ ?_) <;> first | omega | assumption) | fail)) | (with_reducible refine ip_ok ?_ ?_; focus (first | omega | assumption | ((repeat' refine And.intro ?_ ?_) <;> first | omega | assumption) | fail)) | (with_reducible refine in_ok ?_ ?_; focus (first | omega | assumption | ((repeat' refine And.intro ?_ ?_) <;> first | omega | assumption) | fail)) | (rw [i1.2, so_bd]; try dsimp only) | (rw [i2.2, so_bd]; try dsimp only) | (rw [i3.2, so_bd]; try dsimp only) | (rw [w1, so_bd]; try dsimp only) | (rw [so_bd]; try dsimp only))
              exact e4
          rcases f3 with ⟨ev, nF⟩ | ⟨ev, yF⟩
          · rw [ev] at f1 f2
            obtain ⟨st2, g1, g2⟩ := forgets_ok (N := N) hN (st := st1) (was := w)
            have eg : uP (uP g x1 (g x1 + x2)) x1 (uP g x1 (g x1 + x2) x1 + -x2) = g := by
              funext k
              by_cases e : k = x1
              · rw [e, uP_s, uP_s]; omega
              · rw [uP_o _ _ e, uP_o _ _ e]
            have eb : uP (uP b x1 (b x1 + x3)) x1 (uP b x1 (b x1 + x3) x1 + -x3) = b := by
              funext k
              by_cases e : k = x1
              · rw [e, uP_s, uP_s]; omega
              · rw [uP_o _ _ e, uP_o _ _ e]
            have mv2 : m_X6_move N (uP g x1 (g x1 + x2)) (uP b x1 (b x1 + x3)) x1 (-x2) (-x3) = some (g, b) := by
              rw [m_X6_move, eg, eb]
              repeat (first | (with_reducible refine gd_ok ?_ ?_; focus (first | omega | assumption | ((repeat' refine And.intro ?_ ?_) <;> first | omega | assumption) | fail)) | (with_reducible refine ip_ok ?_ ?_; focus (first | omega | assumption | ((repeat' refine And.intro ?_ ?_) <;> first | omega | assumption) | fail)) | (with_reducible refine in_ok ?_ ?_; focus (first | omega | assumption | ((repeat' refine And.intro ?_ ?_) <;> first | omega | assumption) | fail)) | (rw [so_bd]; try dsimp only))
              all_goals rfl
            refine ⟨-5, sd, g, b, az, ak, a1, a2, a3, st2, kp, w, cls _ ?_, ref _ _ _ _ ?_, hA.congr (fun k k0 k1 => (g2 k k0 k1).trans (w2 k k0 k1)), Or.inr ⟨rfl, rfl, rfl⟩⟩
            · rw [m_X12_adds_b34]
              repeat (first | (with_reducible refine gd_ok ?_ ?_; focus (first | omega | assumption | ((repeat' refine And.intro ?_ ?_) <;> first | omega | assumption) | fail)) | (with_reducible refine ip_ok ?_ ?_; focus (first | omega | assumption | ((repeat' refine And.intro ?_ ?_) <;> first | omega | assumption) | fail)) | (with_reducible refine in_ok ?_ ?_; focus (first | omega | assumption | ((repeat' refine And.intro ?_ ?_) <;> first | omega | assumption) | fail)) | (rw [mv, so_bd]; try dsimp only) | (rw [f1, so_bd]; try dsimp only) | (rw [mv2, so_bd]; try dsimp only) | (rw [so_bd]; try dsimp only))
              all_goals rfl
            · rw [m_X13_ends]
              repeat (first | (with_reducible refine gd_ok ?_ ?_; focus (first | omega | assumption | ((repeat' refine And.intro ?_ ?_) <;> first | omega | assumption) | fail)) | (with_reducible refine ip_ok ?_ ?_; focus (first | omega | assumption | ((repeat' refine And.intro ?_ ?_) <;> first | omega | assumption) | fail)) | (with_reducible refine in_ok ?_ ?_; focus (first | omega | assumption | ((repeat' refine And.intro ?_ ?_) <;> first | omega | assumption) | fail)) | (rw [f2, so_bd]; try dsimp only) | (rw [g1, so_bd]; try dsimp only) | (rw [so_bd]; try dsimp only))
              all_goals rfl
          · rw [ev] at f1 f2
            have hFit1 : Fit (fun s => st1 s) (fun s => st1 (1000 + s)) := yF.of (fun s s0 s1 => hsA s s0 s1)
            have hV1 : StV st1 := hV.cnt hFit1 (fun k k0 k1 => v3 k (by omega) (by omega))
            obtain ⟨az', b1, b2, b3, b4, q0, q1, q2, q3, q4⟩ := acted_ok (N := N) (sd := sd) (n := az) (v1 := 1) (v2 := x1) (v3 := x2) (v4 := x3) (k1 := ak) (k2 := a1) (k3 := a2) (k4 := a3) hn
            have dif : ∃ d, (0 ≤ d ∧ d < 3206) ∧ ¬ st1 d = w d := by
              by_cases z2 : x2 = 0
              · refine ⟨1000 + x1, by omega, ?_⟩
                rw [w2 _ (by omega) (by omega), v2, p2]; omega
              · refine ⟨x1, by omega, ?_⟩
                rw [w2 _ (by omega) (by omega), v1, p1]; omega
            obtain ⟨d, d1, d2⟩ := dif
            obtain ⟨km', kp', k1, k2⟩ := keeps_ok (N := N) (kp := kp) hN hn (fun k k0 k1 => ⟨hV1.r k0 k1, hw1 k k0 k1⟩) d1 d2
            have ekm : km' = az' := by
              by_cases z : az < 10
              · have := (k2.1 z).1; have := (q1.1 z).1; omega
              · have := (k2.2 (by omega)).1; have := (q1.2 (by omega)).1; omega
            rw [ekm] at k1 k2
            have hL : Link dl iz isc iop iba 1 x1 x2 x3 (nrm st) (nrm st1) := by
              refine Or.inl ⟨rfl, c1, ?_, fun x x0 x4 y1 y2 => ?_⟩
              · rw [nrm_at c1.1 (by omega), nrm_at c1.1 (by omega), nrm_at (by omega) (by omega), nrm_at (by omega) (by omega), v1, v2, p1, p2]
                omega
              · rw [nrm_at x0 x4, nrm_at x0 x4, v3 x y1 y2]
            have e0 : st1 3200 = st 3200 := v3 3200 (by omega) (by omega)
            have hC' := hC.push hV (ln' := ln) k2 w2 q1 q2 q3 q4 hL (by omega) (fun hq s s0 s1 => by
              rw [v3 (2000 + s) (by omega) (by omega)]
              rcases hq with ⟨j, jb, j7⟩ | hq
              · have := hC.2.2.2.1 j az jb.1 jb.2 (Int.le_refl _) j7 s s0 s1
                rw [Sq_n (by omega), nrm_at (by omega) (by omega)] at this
                exact this
              · omega) ⟨Int.le_refl _, fun q => by omega⟩ (fun j j0 j1 q => q)
            refine ⟨1, 0, uP g x1 (g x1 + x2), uP b x1 (b x1 + x3), az', b1, b2, b3, b4, st1, kp', w, cls _ ?_, ref _ _ _ _ ?_, ⟨hV1, ⟨fun s s0 s1 => ⟨(hsA s s0 s1).1, (hsA s s0 s1).2, ?_⟩, ?_⟩, ⟨e0.trans hD.1, fun i i0 i1 => ?_⟩, hC', hl, hdl⟩, Or.inl rfl⟩
            · rw [m_X12_adds_b34]
              repeat (first | (with_reducible refine gd_ok ?_ ?_; focus (first | omega | assumption | ((repeat' refine And.intro ?_ ?_) <;> first | omega | assumption) | fail)) | (with_reducible refine ip_ok ?_ ?_; focus (first | omega | assumption | ((repeat' refine And.intro ?_ ?_) <;> first | omega | assumption) | fail)) | (with_reducible refine in_ok ?_ ?_; focus (first | omega | assumption | ((repeat' refine And.intro ?_ ?_) <;> first | omega | assumption) | fail)) | (rw [mv, so_bd]; try dsimp only) | (rw [f1, so_bd]; try dsimp only) | (rw [q0, so_bd]; try dsimp only) | (rw [so_bd]; try dsimp only))
              all_goals rfl
            · rw [m_X13_ends]
              repeat (first | (with_reducible refine gd_ok ?_ ?_; focus (first | omega | assumption | ((repeat' refine And.intro ?_ ?_) <;> first | omega | assumption) | fail)) | (with_reducible refine ip_ok ?_ ?_; focus (first | omega | assumption | ((repeat' refine And.intro ?_ ?_) <;> first | omega | assumption) | fail)) | (with_reducible refine in_ok ?_ ?_; focus (first | omega | assumption | ((repeat' refine And.intro ?_ ?_) <;> first | omega | assumption) | fail)) | (rw [f2, so_bd]; try dsimp only) | (rw [k1, so_bd]; try dsimp only) | (rw [so_bd]; try dsimp only))
              all_goals rfl
            · rw [v3 (2000 + s) (by omega) (by omega)]
              exact (hP.1 s s0 s1).2.2
            · rw [v3 3201 (by omega) (by omega), v3 3202 (by omega) (by omega), v3 3203 (by omega) (by omega), v3 3204 (by omega) (by omega), v3 3205 (by omega) (by omega)]
              exact hP.2
            · rw [v3 (3000 + 5 * i) (by omega) (by omega), v3 (3000 + 5 * i + 1) (by omega) (by omega), v3 (3000 + 5 * i + 2) (by omega) (by omega), v3 (3000 + 5 * i + 3) (by omega) (by omega), v3 (3000 + 5 * i + 4) (by omega) (by omega)]
              exact hD.2 i i0 i1
      · have i3 := isStep0 (N := N) hx3 c3
        refine ⟨-2, sd, g, b, az, ak, a1, a2, a3, st, kp, was, ?_, ?_, hA, Or.inr ⟨rfl, rfl, rfl⟩⟩
        · rw [m_X12_adds]
          repeat (first | (with_reducible refine gd_ok ?_ ?_; focus (first | omega | assumption | ((repeat' refine And.intro ?_ ?_) <;> first | omega | assumption) | fail)) | (with_reducible refine ip_ok ?_ ?_; focus (first | omega | assumption | ((repeat' refine And.intro ?_ ?_) <;> first | omega | assumption) | fail)) | (with_reducible refine in_ok ?_ ?_; focus (first | omega | assumption | ((repeat' refine And.intro ?_ ?_) <;> first | omega | assumption) | fail)) | (rw [i1.1, so_bd]; try dsimp only) | (rw [i2.1, so_bd]; try dsimp only) | (rw [i3.1, so_bd]; try dsimp only) | (rw [so_bd]; try dsimp only))
          all_goals rfl
        · rw [m_X13_adds]
          repeat (first | (with_reducible refine gd_ok ?_ ?_; focus (first | omega | assumption | ((repeat' refine And.intro ?_ ?_) <;> first | omega | assumption) | fail)) | (with_reducible refine ip_ok ?_ ?_; focus (first | omega | assumption | ((repeat' refine And.intro ?_ ?_) <;> first | omega | assumption) | fail)) | (with_reducible refine in_ok ?_ ?_; focus (first | omega | assumption | ((repeat' refine And.intro ?_ ?_) <;> first | omega | assumption) | fail)) | (rw [i1.2, so_bd]; try dsimp only) | (rw [i2.2, so_bd]; try dsimp only) | (rw [i3.2, so_bd]; try dsimp only) | (rw [so_bd]; try dsimp only))
          all_goals rfl
    · have i2 := isStep0 (N := N) hx2 c2
      refine ⟨-2, sd, g, b, az, ak, a1, a2, a3, st, kp, was, ?_, ?_, hA, Or.inr ⟨rfl, rfl, rfl⟩⟩
      · rw [m_X12_adds]
        repeat (first | (with_reducible refine gd_ok ?_ ?_; focus (first | omega | assumption | ((repeat' refine And.intro ?_ ?_) <;> first | omega | assumption) | fail)) | (with_reducible refine ip_ok ?_ ?_; focus (first | omega | assumption | ((repeat' refine And.intro ?_ ?_) <;> first | omega | assumption) | fail)) | (with_reducible refine in_ok ?_ ?_; focus (first | omega | assumption | ((repeat' refine And.intro ?_ ?_) <;> first | omega | assumption) | fail)) | (rw [i1.1, so_bd]; try dsimp only) | (rw [i2.1, so_bd]; try dsimp only) | (rw [so_bd]; try dsimp only))
        all_goals rfl
      · rw [m_X13_adds]
        repeat (first | (with_reducible refine gd_ok ?_ ?_; focus (first | omega | assumption | ((repeat' refine And.intro ?_ ?_) <;> first | omega | assumption) | fail)) | (with_reducible refine ip_ok ?_ ?_; focus (first | omega | assumption | ((repeat' refine And.intro ?_ ?_) <;> first | omega | assumption) | fail)) | (with_reducible refine in_ok ?_ ?_; focus (first | omega | assumption | ((repeat' refine And.intro ?_ ?_) <;> first | omega | assumption) | fail)) | (rw [i1.2, so_bd]; try dsimp only) | (rw [i2.2, so_bd]; try dsimp only) | (rw [so_bd]; try dsimp only))
        all_goals rfl
  · have i1 := isScore0 (N := N) hx1 c1
    refine ⟨-2, sd, g, b, az, ak, a1, a2, a3, st, kp, was, ?_, ?_, hA, Or.inr ⟨rfl, rfl, rfl⟩⟩
    · rw [m_X12_adds]
      repeat (first | (with_reducible refine gd_ok ?_ ?_; focus (first | omega | assumption | ((repeat' refine And.intro ?_ ?_) <;> first | omega | assumption) | fail)) | (with_reducible refine ip_ok ?_ ?_; focus (first | omega | assumption | ((repeat' refine And.intro ?_ ?_) <;> first | omega | assumption) | fail)) | (with_reducible refine in_ok ?_ ?_; focus (first | omega | assumption | ((repeat' refine And.intro ?_ ?_) <;> first | omega | assumption) | fail)) | (rw [i1.1, so_bd]; try dsimp only) | (rw [so_bd]; try dsimp only))
      all_goals rfl
    · rw [m_X13_adds]
      repeat (first | (with_reducible refine gd_ok ?_ ?_; focus (first | omega | assumption | ((repeat' refine And.intro ?_ ?_) <;> first | omega | assumption) | fail)) | (with_reducible refine ip_ok ?_ ?_; focus (first | omega | assumption | ((repeat' refine And.intro ?_ ?_) <;> first | omega | assumption) | fail)) | (with_reducible refine in_ok ?_ ?_; focus (first | omega | assumption | ((repeat' refine And.intro ?_ ?_) <;> first | omega | assumption) | fail)) | (rw [i1.2, so_bd]; try dsimp only) | (rw [so_bd]; try dsimp only))
      all_goals rfl
end
