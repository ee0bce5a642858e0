/-! acts: decisions -/
section
variable {N : Nat} {st g b op ds dc da dr dl isc iop iba ak a1 a2 a3 kp was : Int → Int} {le mo gc bc rc dz ln iz az sd : Int}
theorem cntR_lb {q lb lb' : Int → Int} {a w s : Int} (e : ∀ i, 0 ≤ i → i < q 3200 → (lb' i = a ↔ lb i = a)) : cntR q lb' a w s = cntR q lb a w s := by
  unfold cntR
  refine sI_congr (fun i i0 i1 => ?_)
  have := e i i0 i1
  by_cases c : lb i = a
  · have c' := this.mpr c
    by_cases d : q (3000 + 5 * i) = s ∧ q (3000 + 5 * i + 3) = w
    · simp only [if_pos (And.intro c' d), if_pos (And.intro c d)]
    · simp only [if_neg (fun z : lb' i = a ∧ q (3000 + 5 * i) = s ∧ q (3000 + 5 * i + 3) = w => d z.2), if_neg (fun z : lb i = a ∧ q (3000 + 5 * i) = s ∧ q (3000 + 5 * i + 3) = w => d z.2)]
  · have c' : ¬ lb' i = a := fun z => c (this.mp z)
    simp only [if_neg (fun z : lb' i = a ∧ q (3000 + 5 * i) = s ∧ q (3000 + 5 * i + 3) = w => c' z.1), if_neg (fun z : lb i = a ∧ q (3000 + 5 * i) = s ∧ q (3000 + 5 * i + 3) = w => c z.1)]
theorem Link.lb {lb lb' p q : Int → Int} {k a b c : Int} (h : Link lb iz isc iop iba k a b c p q) (e : k = 6 → ∀ i, 0 ≤ i → i < q 3200 → (lb' i = a ↔ lb i = a)) : Link lb' iz isc iop iba k a b c p q := by
  rcases h with h | h | h | h | h | h | h
  · exact Or.inl h
  · exact Or.inr (Or.inl h)
  · exact Or.inr (Or.inr (Or.inl h))
  · exact Or.inr (Or.inr (Or.inr (Or.inl h)))
  · exact Or.inr (Or.inr (Or.inr (Or.inr (Or.inl h))))
  · obtain ⟨h1, h2, h3, h4, h5⟩ := h
    have e := e h1
    refine Or.inr (Or.inr (Or.inr (Or.inr (Or.inr (Or.inl ⟨h1, h2, fun s s0 s1 => ?_, h4, fun i i0 i1 => ?_⟩)))))
    · rw [cntR_lb e, cntR_lb e]
      exact h3 s s0 s1
    · rw [h5 i i0 i1]
      have := e i i0 i1
      by_cases c : lb i = a
      · rw [if_pos c, if_pos (this.mpr c)]
      · rw [if_neg c, if_neg (fun z => c (this.mp z))]
  · exact Or.inr (Or.inr (Or.inr (Or.inr (Or.inr (Or.inr h)))))
theorem StV.dec {st' : Int → Int} (h : StV st) (hf : Fit (fun s => st' s) (fun s => st' (1000 + s))) (e1 : ∀ k, 2000 ≤ k → k < 3000 → st' k = st k) (e2 : ∀ k, 3201 ≤ k → k < 3206 → st' k = st k) (h4' : 0 ≤ st' 3200 ∧ st' 3200 ≤ 40) (h5' : ∀ k, 3000 ≤ k → k < 3200 → -1 ≤ st' k ∧ st' k ≤ 999) (h6' : ∀ i, 0 ≤ i → i < st' 3200 → (0 ≤ st' (3000 + 5 * i) ∧ st' (3000 + 5 * i) < 1000) ∧ (st' (3000 + 5 * i + 3) = -1 ∨ st' (3000 + 5 * i + 3) = 0 ∨ st' (3000 + 5 * i + 3) = 1) ∧ (st' (3000 + 5 * i + 4) = 0 ∨ st' (3000 + 5 * i + 4) = 1)) : StV st' := by
  obtain ⟨h1, h2, h3, h4, h5, h6⟩ := h
  refine ⟨hf, ⟨fun s s0 s1 => ?_, ?_⟩, ?_, h4', h5', h6'⟩
  · rw [e1 (2000 + s) (by omega) (by omega)]
    exact h2.1 s s0 s1
  · have q : cn (fun s => st' (2000 + s)) (fun _ => 0) = cn (fun s => st (2000 + s)) (fun _ => 0) := rwN_congr 1000 (fun s s0 s1 => ⟨e1 (2000 + s) (by omega) (by omega), rfl⟩)
    rw [q]
    exact h2.2
  · rw [e2 3201 (by decide) (by decide), e2 3202 (by decide) (by decide), e2 3203 (by decide) (by decide), e2 3204 (by decide) (by decide), e2 3205 (by decide) (by decide)]
    exact h3
/-- an act on decisions (and counts) -/
theorem act_dec (hN : 40000 ≤ N) (h : ARel st le mo gc bc rc g b op dz ds dc da dr dl ln iz isc iop iba az ak a1 a2 a3 kp) {st1 w g1 b1 ds1 dc1 da1 dr1 dl1 : Int → Int} {v1 v2 v3 v4 d dz1 ln1 : Int} (hv1 : v1 ≠ 7) (w2 : ∀ k, 0 ≤ k → k < 3206 → w k = st k) (hg : ∀ s, 0 ≤ s → s < 1000 → st1 s = g1 s ∧ st1 (1000 + s) = b1 s) (e1 : ∀ k, 2000 ≤ k → k < 3000 → st1 k = st k) (e2 : ∀ k, 3201 ≤ k → k < 3206 → st1 k = st k) (hV1 : StV st1) (hD1 : DeR st1 dz1 ds1 dc1 da1 dr1 dl1) (hm : dz ≤ dz1) (hL : Link dl1 iz isc iop iba v1 v2 v3 v4 (nrm st) (nrm st1)) (hl1 : (ln ≤ ln1 ∧ ln1 ≤ 1000000) ∧ (v1 = 6 → ln < v2 ∧ v2 ≤ ln1)) (hdl1 : ∀ i, 0 ≤ i → i < dz1 → 0 ≤ dl1 i ∧ dl1 i ≤ ln1) (hlb : ∀ a i, 0 < a → a ≤ ln → 0 ≤ i → i < dz → (dl1 i = a ↔ dl i = a)) (hd : 0 ≤ d ∧ d < 3206) (hne : ¬ st1 d = st d) : ∃ az' ak' a1' a2' a3' kp', m_X12_acted N sd az ak a1 a2 a3 v1 v2 v3 v4 = some (0, az', ak', a1', a2', a3') ∧ m_X13_keeps N st1 w az kp = some (1, az', kp') ∧ ARel st1 le mo gc bc rc g1 b1 op dz1 ds1 dc1 da1 dr1 dl1 ln1 iz isc iop iba az' ak' a1' a2' a3' kp' := by
  obtain ⟨hV, hP, hD, hC, hl, hdl⟩ := h
  have hn := hC.1
  have ez := hD.1
  have ez1 := hD1.1
  have hw1 : ∀ k, 0 ≤ k → k < 3206 → rI (w k) := fun k k0 k1 => by rw [w2 k k0 k1]; exact hV.r k0 k1
  obtain ⟨az', c1, c2, c3, c4, q0, q1, q2, q3, q4⟩ := acted_ok (N := N) (sd := sd) (n := az) (v1 := v1) (v2 := v2) (v3 := v3) (v4 := v4) (k1 := ak) (k2 := a1) (k3 := a2) (k4 := a3) hn
  obtain ⟨km', kp', k1, k2⟩ := keeps_ok (N := N) (kp := kp) hN hn (fun k k0 k1 => ⟨hV1.r k0 k1, hw1 k k0 k1⟩) hd (by rw [w2 d hd.1 hd.2]; exact hne)
  have ekm : km' = az' := by
    by_cases z : az < 10
    · have := (k2.1 z).1; have := (q1.1 z).1; omega
    · have := (k2.2 (by omega)).1; have := (q1.2 (by omega)).1; omega
  rw [ekm] at k1 k2
  have hC' := hC.push hV (ln' := ln1) k2 w2 q1 q2 q3 q4 hL (by omega) (fun hq s s0 s1 => by
    rw [e1 (2000 + s) (by omega) (by omega)]
    rcases hq with ⟨j, jb, j7⟩ | hq
    · have := hC.2.2.2.1 j az jb.1 jb.2 (Int.le_refl _) j7 s s0 s1
      rw [Sq_n (by omega), nrm_at (by omega) (by omega)] at this
      exact this
    · exact absurd hq hv1) ⟨hl1.1.1, hl1.2⟩ (fun j j0 j1 q => q.lb (fun k6 i i0 i1 => by
      have m1 : Sq kp az st (j + 1) 3200 ≤ dz := by
        by_cases y : j + 1 = az
        · rw [y, Sq_n (by omega), nrm_at (by decide) (by decide), ez]
          exact Int.le_refl _
        · have := hC.2.2.1 (j + 1) az (by omega) (by omega) (Int.le_refl _)
          rw [Sq_n (l := az) (by omega), nrm_at (p := st) (by decide) (by decide), ez] at this
          exact this
      have m2 := hC.2.2.2.2.1 j j0 j1 k6
      have m3 : 0 < a1 j := by
        rcases q with q | q | q | q | q | q | q
        · omega
        · omega
        · omega
        · omega
        · omega
        · exact q.2.1
        · omega
      exact hlb (a1 j) i m3 m2 i0 (by omega)))
  refine ⟨az', c1, c2, c3, c4, kp', q0, k1, hV1, ⟨fun s s0 s1 => ?_, ?_⟩, hD1, hC', ⟨by omega, hl1.1.2⟩, hdl1⟩
  · obtain ⟨x1, x2⟩ := hg s s0 s1
    refine ⟨x1, x2, ?_⟩
    rw [e1 (2000 + s) (by omega) (by omega)]
    exact (hP.1 s s0 s1).2.2
  · rw [e2 3201 (by decide) (by decide), e2 3202 (by decide) (by decide), e2 3203 (by decide) (by decide), e2 3204 (by decide) (by decide), e2 3205 (by decide) (by decide)]
    exact hP.2
theorem dhas1 {m k : Int} (hk : rI k) (hm : rI m) (h : 0 ≤ k ∧ k < m) : m_X2_has N m k = some 1 := by
  rw [m_X2_has]
  repeat (first | (with_reducible refine gd_ok ?_ ?_; focus (first | omega | assumption | ((repeat' refine And.intro ?_ ?_) <;> first | omega | assumption) | fail)) | (with_reducible refine ip_ok ?_ ?_; focus (first | omega | assumption | ((repeat' refine And.intro ?_ ?_) <;> first | omega | assumption) | fail)) | (with_reducible refine in_ok ?_ ?_; focus (first | omega | assumption | ((repeat' refine And.intro ?_ ?_) <;> first | omega | assumption) | fail)) | (rw [so_bd]; try dsimp only))
  all_goals rfl
theorem dhas0 {m k : Int} (hk : rI k) (hm : rI m) (h : ¬ (0 ≤ k ∧ k < m)) : m_X2_has N m k = some 0 := by
  rw [m_X2_has]
  by_cases c : k < 0
  · repeat (first | (with_reducible refine gd_ok ?_ ?_; focus (first | omega | assumption | ((repeat' refine And.intro ?_ ?_) <;> first | omega | assumption) | fail)) | (with_reducible refine ip_ok ?_ ?_; focus (first | omega | assumption | ((repeat' refine And.intro ?_ ?_) <;> first | omega | assumption) | fail)) | (with_reducible refine in_ok ?_ ?_; focus (first | omega | assumption | ((repeat' refine And.intro ?_ ?_) <;> first | omega | assumption) | fail)) | (rw [so_bd]; try dsimp only))
    all_goals rfl
  · repeat (first | (with_reducible refine gd_ok ?_ ?_; focus (first | omega | assumption | ((repeat' refine And.intro ?_ ?_) <;> first | omega | assumption) | fail)) | (with_reducible refine ip_ok ?_ ?_; focus (first | omega | assumption | ((repeat' refine And.intro ?_ ?_) <;> first | omega | assumption) | fail)) | (with_reducible refine in_ok ?_ ?_; focus (first | omega | assumption | ((repeat' refine And.intro ?_ ?_) <;> first | omega | assumption) | fail)) | (rw [so_bd]; try dsimp only))
    all_goals rfl
theorem isDec1 {z i : Int} (hz : 0 ≤ z ∧ z ≤ 40) (e : st 3200 = z) (hi : rI i) (h : 0 ≤ i ∧ i < z) : m_X13_isDecision N st i = some 1 := by
  rw [m_X13_isDecision, e]
  repeat (first | (with_reducible refine gd_ok ?_ ?_; focus (first | omega | assumption | ((repeat' refine And.intro ?_ ?_) <;> first | omega | assumption) | fail)) | (with_reducible refine ip_ok ?_ ?_; focus (first | omega | assumption | ((repeat' refine And.intro ?_ ?_) <;> first | omega | assumption) | fail)) | (with_reducible refine in_ok ?_ ?_; focus (first | omega | assumption | ((repeat' refine And.intro ?_ ?_) <;> first | omega | assumption) | fail)) | (rw [in1 (N := N) (v := i) (lo := 0) (hi := z - 1) (rI_L hi) ⟨by decide, by decide⟩ ⟨by omega, by omega⟩ ⟨by omega, by omega⟩, so_bd]; try dsimp only) | (rw [so_bd]; try dsimp only))
  all_goals rfl
theorem isDec0 {z i : Int} (hz : 0 ≤ z ∧ z ≤ 40) (e : st 3200 = z) (hi : rI i) (h : ¬ (0 ≤ i ∧ i < z)) : m_X13_isDecision N st i = some 0 := by
  rw [m_X13_isDecision, e]
  repeat (first | (with_reducible refine gd_ok ?_ ?_; focus (first | omega | assumption | ((repeat' refine And.intro ?_ ?_) <;> first | omega | assumption) | fail)) | (with_reducible refine ip_ok ?_ ?_; focus (first | omega | assumption | ((repeat' refine And.intro ?_ ?_) <;> first | omega | assumption) | fail)) | (with_reducible refine in_ok ?_ ?_; focus (first | omega | assumption | ((repeat' refine And.intro ?_ ?_) <;> first | omega | assumption) | fail)) | (rw [in0 (N := N) (v := i) (lo := 0) (hi := z - 1) (rI_L hi) ⟨by decide, by decide⟩ ⟨by omega, by omega⟩ (by omega), so_bd]; try dsimp only) | (rw [so_bd]; try dsimp only))
  all_goals rfl
set_option maxHeartbeats 4000000 in
theorem s_outcome (hN : 40000 ≤ N) (h : ARel st le mo gc bc rc g b op dz ds dc da dr dl ln iz isc iop iba az ak a1 a2 a3 kp) {x1 x2 : Int} (hx1 : rI x1) (hx2 : rI x2) : ∃ a sd' dr' az' ak' a1' a2' a3' st' kp' w', m_X12_outcome N dz dc sd dr az ak a1 a2 a3 x1 x2 = some (a, sd', dr', az', ak', a1', a2', a3') ∧ m_X13_outcome N az st kp was x1 x2 = some (a, az', st', kp', w') ∧ ARel st' le mo gc bc rc g b op dz ds dc da dr' dl ln iz isc iop iba az' ak' a1' a2' a3' kp' ∧ (sd' = 0 ∨ sd' = sd) := by
  have hA := h
  obtain ⟨hV, hP, hD, hC, hl, hdl⟩ := h
  have hz := hV.2.2.2.1
  have ez := hD.1
  rw [ez] at hz
  by_cases c1 : 0 ≤ x1 ∧ x1 < dz
  · have i1 := isDec1 (N := N) hz ez hx1 c1
    have j1 := dhas1 (N := N) (m := dz) hx1 ⟨by omega, by omega⟩ c1
    obtain ⟨t0, t1, t2, t3, t4⟩ := hD.2 x1 c1.1 c1.2
    have b1 := hV.b (k := 3000 + 5 * x1 + 1) (by omega) (by omega)
    have b3 := hV.b (k := 3000 + 5 * x1 + 3) (by omega) (by omega)
    rw [t1] at b1
    rw [t3] at b3
    by_cases c2 : 0 ≤ x2 ∧ x2 ≤ 1
    · have i2 := in1 (N := N) (v := x2) (lo := 0) (hi := 1) (rI_L hx2) ⟨by decide, by decide⟩ ⟨by decide, by decide⟩ c2
      by_cases c3 : dc x1 = 0
      · refine ⟨-5, sd, dr, az, ak, a1, a2, a3, st, kp, was, ?_, ?_, hA, Or.inr rfl⟩
        · rw [m_X12_outcome]
          repeat (first | (with_reducible refine gd_ok ?_ ?_; focus (first | omega | assumption | ((repeat' refine And.intro ?_ ?_) <;> first | omega | assumption) | fail)) | (with_reducible refine ip_ok ?_ ?_; focus (first | omega | assumption | ((repeat' refine And.intro ?_ ?_) <;> first | omega | assumption) | fail)) | (with_reducible refine in_ok ?_ ?_; focus (first | omega | assumption | ((repeat' refine And.intro ?_ ?_) <;> first | omega | assumption) | fail)) | (rw [j1, so_bd]; try dsimp only) | (rw [so_bd]; try dsimp only))
          all_goals rfl
        · rw [m_X13_outcome, t1]
          repeat (first | (with_reducible refine gd_ok ?_ ?_; focus (first | omega | assumption | ((repeat' refine And.intro ?_ ?_) <;> first | omega | assumption) | fail)) | (with_reducible refine ip_ok ?_ ?_; focus (first | omega | assumption | ((repeat' refine And.intro ?_ ?_) <;> first | omega | assumption) | fail)) | (with_reducible refine in_ok ?_ ?_; focus (first | omega | assumption | ((repeat' refine And.intro ?_ ?_) <;> first | omega | assumption) | fail)) | (rw [i1, so_bd]; try dsimp only) | (rw [i2, so_bd]; try dsimp only) | (rw [so_bd]; try dsimp only))
          all_goals rfl
      · by_cases c4 : dr x1 = -1
        · obtain ⟨w, w1, w2⟩ := remembers_ok (N := N) hN (st := st) (was := was)
          generalize hs1 : uP st (3000 + 5 * x1 + 3) x2 = st1
          have v1 : st1 (3000 + 5 * x1 + 3) = x2 := by rw [← hs1, uP_s]
          have v3 : ∀ k, k ≠ 3000 + 5 * x1 + 3 → st1 k = st k := fun k q => by rw [← hs1, uP_o _ _ q]
          have hV1 : StV st1 := hV.dec (hV.1.of (fun s s0 s1 => ⟨v3 s (by omega), v3 (1000 + s) (by omega)⟩)) (fun k k0 k1 => v3 k (by omega)) (fun k k0 k1 => v3 k (by omega)) (by rw [v3 3200 (by omega)]; exact hV.2.2.2.1) (fun k k0 k1 => by
            by_cases e : k = 3000 + 5 * x1 + 3
            · rw [e, v1]; omega
            · rw [v3 k e]; exact hV.2.2.2.2.1 k k0 k1) (fun i i0 i1 => by
            rw [v3 3200 (by omega)] at i1
            have q := hV.2.2.2.2.2 i i0 i1
            rw [v3 (3000 + 5 * i) (by omega), v3 (3000 + 5 * i + 4) (by omega)]
            by_cases e : i = x1
            · rw [e] at q ⊢
              rw [v1]
              exact ⟨q.1, by omega, q.2.2⟩
            · rw [v3 (3000 + 5 * i + 3) (by omega)]
              exact q)
          have hL : Link dl iz isc iop iba 5 x1 0 0 (nrm st) (nrm st1) := by
            refine Or.inr (Or.inr (Or.inr (Or.inr (Or.inl ⟨rfl, ?_, ?_, fun x x0 x9 y => ?_⟩))))
            · rw [nrm_at (by decide) (by decide), v3 3200 (by omega), ez]
              exact c1
            · rw [nrm_at (by omega) (by omega), t3]
              exact c4
            · rw [nrm_at x0 x9, nrm_at x0 x9, v3 x y]
          obtain ⟨az', ak', a1', a2', a3', kp', q1, q2, q3⟩ := act_dec (N := N) (sd := sd) (ds1 := ds) (dc1 := dc) (da1 := da) (dr1 := uP dr x1 x2) (dl1 := dl) (dz1 := dz) (ln1 := ln) (g1 := g) (b1 := b) hN hA (v1 := 5) (by decide) w2 (fun s s0 s1 => by rw [v3 s (by omega), v3 (1000 + s) (by omega)]; exact hP.st s s0 s1) (fun k k0 k1 => v3 k (by omega)) (fun k k0 k1 => v3 k (by omega)) hV1 ⟨by rw [v3 3200 (by omega)]; exact ez, fun i i0 i1 => by
            rw [v3 (3000 + 5 * i) (by omega), v3 (3000 + 5 * i + 1) (by omega), v3 (3000 + 5 * i + 2) (by omega), v3 (3000 + 5 * i + 4) (by omega)]
            have q := hD.2 i i0 i1
            by_cases e : i = x1
            · rw [e] at q ⊢
              rw [v1, uP_s]
              exact ⟨q.1, q.2.1, q.2.2.1, rfl, q.2.2.2.2⟩
            · rw [v3 (3000 + 5 * i + 3) (by omega), uP_o _ _ e]
              exact q⟩ (Int.le_refl _) hL ⟨⟨Int.le_refl _, hl.2⟩, fun q => by omega⟩ hdl (fun a i _ _ _ _ => Iff.rfl) (d := 3000 + 5 * x1 + 3) ⟨by omega, by omega⟩ (by rw [v1, t3]; omega)
          refine ⟨0, 0, uP dr x1 x2, az', ak', a1', a2', a3', st1, kp', w, ?_, ?_, q3, Or.inl rfl⟩
          · rw [m_X12_outcome]
            repeat (first | (with_reducible refine gd_ok ?_ ?_; focus (first | omega | assumption | ((repeat' refine And.intro ?_ ?_) <;> first | omega | assumption) | fail)) | (with_reducible refine ip_ok ?_ ?_; focus (first | omega | assumption | ((repeat' refine And.intro ?_ ?_) <;> first | omega | assumption) | fail)) | (with_reducible refine in_ok ?_ ?_; focus (first | omega | assumption | ((repeat' refine And.intro ?_ ?_) <;> first | omega | assumption) | fail)) | (rw [j1, so_bd]; try dsimp only) | (rw [q1, so_bd]; try dsimp only) | (rw [so_bd]; try dsimp only))
            all_goals rfl
          · rw [m_X13_outcome, hs1, t1, t3]
            repeat (first | (with_reducible refine gd_ok ?_ ?_; focus (first | omega | assumption | ((repeat' refine And.intro ?_ ?_) <;> first | omega | assumption) | fail)) | (with_reducible refine ip_ok ?_ ?_; focus (first | omega | assumption | ((repeat' refine And.intro ?_ ?_) <;> first | omega | assumption) | fail)) | (with_reducible refine in_ok ?_ ?_; focus (first | omega | assumption | ((repeat' refine And.intro ?_ ?_) <;> first | omega | assumption) | fail)) | (rw [i1, so_bd]; try dsimp only) | (rw [i2, so_bd]; try dsimp only) | (rw [w1, so_bd]; try dsimp only) | (rw [q2, so_bd]; try dsimp only) | (rw [so_bd]; try dsimp only))
            all_goals rfl
        · refine ⟨-5, sd, dr, az, ak, a1, a2, a3, st, kp, was, ?_, ?_, hA, Or.inr rfl⟩
          · rw [m_X12_outcome]
            repeat (first | (with_reducible refine gd_ok ?_ ?_; focus (first | omega | assumption | ((repeat' refine And.intro ?_ ?_) <;> first | omega | assumption) | fail)) | (with_reducible refine ip_ok ?_ ?_; focus (first | omega | assumption | ((repeat' refine And.intro ?_ ?_) <;> first | omega | assumption) | fail)) | (with_reducible refine in_ok ?_ ?_; focus (first | omega | assumption | ((repeat' refine And.intro ?_ ?_) <;> first | omega | assumption) | fail)) | (rw [j1, so_bd]; try dsimp only) | (rw [so_bd]; try dsimp only))
            all_goals rfl
          · rw [m_X13_outcome, t1, t3]
            repeat (first | (with_reducible refine gd_ok ?_ ?_; focus (first | omega | assumption | ((repeat' refine And.intro ?_ ?_) <;> first | omega | assumption) | fail)) | (with_reducible refine ip_ok ?_ ?_; focus (first | omega | assumption | ((repeat' refine And.intro ?_ ?_) <;> first | omega | assumption) | fail)) | (with_reducible refine in_ok ?_ ?_; focus (first | omega | assumption | ((repeat' refine And.intro ?_ ?_) <;> first | omega | assumption) | fail)) | (rw [i1, so_bd]; try dsimp only) | (rw [i2, so_bd]; try dsimp only) | (rw [so_bd]; try dsimp only))
            all_goals rfl
    · have i2 := in0 (N := N) (v := x2) (lo := 0) (hi := 1) (rI_L hx2) ⟨by decide, by decide⟩ ⟨by decide, by decide⟩ c2
      refine ⟨-2, sd, dr, az, ak, a1, a2, a3, st, kp, was, ?_, ?_, hA, Or.inr rfl⟩
      · rw [m_X12_outcome]
        by_cases d : x2 < 0
        · repeat (first | (with_reducible refine gd_ok ?_ ?_; focus (first | omega | assumption | ((repeat' refine And.intro ?_ ?_) <;> first | omega | assumption) | fail)) | (with_reducible refine ip_ok ?_ ?_; focus (first | omega | assumption | ((repeat' refine And.intro ?_ ?_) <;> first | omega | assumption) | fail)) | (with_reducible refine in_ok ?_ ?_; focus (first | omega | assumption | ((repeat' refine And.intro ?_ ?_) <;> first | omega | assumption) | fail)) | (rw [j1, so_bd]; try dsimp only) | (rw [so_bd]; try dsimp only))
          all_goals rfl
        · repeat (first | (with_reducible refine gd_ok ?_ ?_; focus (first | omega | assumption | ((repeat' refine And.intro ?_ ?_) <;> first | omega | assumption) | fail)) | (with_reducible refine ip_ok ?_ ?_; focus (first | omega | assumption | ((repeat' refine And.intro ?_ ?_) <;> first | omega | assumption) | fail)) | (with_reducible refine in_ok ?_ ?_; focus (first | omega | assumption | ((repeat' refine And.intro ?_ ?_) <;> first | omega | assumption) | fail)) | (rw [j1, so_bd]; try dsimp only) | (rw [so_bd]; try dsimp only))
          all_goals rfl
      · rw [m_X13_outcome]
        repeat (first | (with_reducible refine gd_ok ?_ ?_; focus (first | omega | assumption | ((repeat' refine And.intro ?_ ?_) <;> first | omega | assumption) | fail)) | (with_reducible refine ip_ok ?_ ?_; focus (first | omega | assumption | ((repeat' refine And.intro ?_ ?_) <;> first | omega | assumption) | fail)) | (with_reducible refine in_ok ?_ ?_; focus (first | omega | assumption | ((repeat' refine And.intro ?_ ?_) <;> first | omega | assumption) | fail)) | (rw [i1, so_bd]; try dsimp only) | (rw [i2, so_bd]; try dsimp only) | (rw [so_bd]; try dsimp only))
        all_goals rfl
  · have i1 := isDec0 (N := N) hz ez hx1 c1
    have j1 := dhas0 (N := N) (m := dz) hx1 ⟨by omega, by omega⟩ c1
    refine ⟨-2, sd, dr, az, ak, a1, a2, a3, st, kp, was, ?_, ?_, hA, Or.inr rfl⟩
    · rw [m_X12_outcome]
      repeat (first | (with_reducible refine gd_ok ?_ ?_; focus (first | omega | assumption | ((repeat' refine And.intro ?_ ?_) <;> first | omega | assumption) | fail)) | (with_reducible refine ip_ok ?_ ?_; focus (first | omega | assumption | ((repeat' refine And.intro ?_ ?_) <;> first | omega | assumption) | fail)) | (with_reducible refine in_ok ?_ ?_; focus (first | omega | assumption | ((repeat' refine And.intro ?_ ?_) <;> first | omega | assumption) | fail)) | (rw [j1, so_bd]; try dsimp only) | (rw [so_bd]; try dsimp only))
      all_goals rfl
    · rw [m_X13_outcome]
      repeat (first | (with_reducible refine gd_ok ?_ ?_; focus (first | omega | assumption | ((repeat' refine And.intro ?_ ?_) <;> first | omega | assumption) | fail)) | (with_reducible refine ip_ok ?_ ?_; focus (first | omega | assumption | ((repeat' refine And.intro ?_ ?_) <;> first | omega | assumption) | fail)) | (with_reducible refine in_ok ?_ ?_; focus (first | omega | assumption | ((repeat' refine And.intro ?_ ?_) <;> first | omega | assumption) | fail)) | (rw [i1, so_bd]; try dsimp only) | (rw [so_bd]; try dsimp only))
      all_goals rfl
end
