/-! acts: learning, the same answer -/
def LrI (st lb ds dr : Int → Int) (id_ : Int) (sy : Int → Int) (y : Int) : Prop := (∀ s, 0 ≤ s → s < 1000 → sy s = st s + cntC lb ds dr id_ 0 s y ∧ sy (1000 + s) = st (1000 + s) + cntC lb ds dr id_ 1 s y) ∧ (∀ k, 2000 ≤ k → k < 3206 → (∀ i, 0 ≤ i → i < y → lb i = id_ → k ≠ 3000 + 5 * i + 4) → sy k = st k) ∧ ∀ i, 0 ≤ i → i < y → lb i = id_ → sy (3000 + 5 * i + 4) = 1
section
variable {N : Nat} {st g b op ds dc da dr dl isc iop iba ak a1 a2 a3 kp was : Int → Int} {le mo gc bc rc dz ln iz az sd : Int}
theorem rlearn_lp (hN : 40000 ≤ N) {lb w : Int → Int} (hD : DeR st dz ds dc da dr dl) (hz : 0 ≤ dz ∧ dz ≤ 40) (hd : ∀ i, 0 ≤ i → i < dz → (0 ≤ ds i ∧ ds i < 1000) ∧ (dr i = -1 ∨ dr i = 0 ∨ dr i = 1)) (hm1 : ∀ i, 0 ≤ i → i < dz → pnd dr dl i → lb i = ln + 1) (hm2 : ∀ i, 0 ≤ i → i < dz → ¬ pnd dr dl i → ¬ lb i = ln + 1) : ∀ (f : Nat) (sy : Int → Int) (y1 y : Int), 0 ≤ y → y ≤ dz → LrI st lb ds dr (ln + 1) sy y → y1 = sI (fun i => if lb i = ln + 1 then 1 else 0) y → (dz - y).toNat < f → ∃ s1, LrI st lb ds dr (ln + 1) s1 dz ∧ m_X13_learn_b8 N az kp w f sy y1 y = (m_X13_ends N w az s1 kp (sI (fun i => if lb i = ln + 1 then 1 else 0) dz)).bind fun r4 => some (r4.1, r4.2.1, r4.2.2.1, r4.2.2.2, w) := by
  intro f
  induction f with
  | zero => intro sy y1 y _ _ _ _ h; omega
  | succ f ih =>
    intro sy y1 y h0 h1 hI hy hf
    obtain ⟨hI1, hI2, hI3⟩ := hI
    have ez : sy 3200 = dz := by rw [hI2 3200 (by decide) (by decide) (fun i i0 i1 _ => by omega)]; exact hD.1
    rw [m_X13_learn_b8, ez]
    by_cases c : dz ≤ y
    · have e : y = dz := by omega
      subst e
      refine ⟨sy, ⟨hI1, hI2, hI3⟩, ?_⟩
      rw [hy]
      repeat (first | (with_reducible refine gd_ok ?_ ?_; focus (first | omega | assumption | ((repeat' refine And.intro ?_ ?_) <;> first | omega | assumption) | fail)) | (with_reducible refine ip_ok ?_ ?_; focus (first | omega | assumption | ((repeat' refine And.intro ?_ ?_) <;> first | omega | assumption) | fail)) | (with_reducible refine in_ok ?_ ?_; focus (first | omega | assumption | ((repeat' refine And.intro ?_ ?_) <;> first | omega | assumption) | fail)) | (rw [so_bd]; try dsimp only))
      all_goals rfl
    · obtain ⟨t0, t1, t2, t3, t4⟩ := hD.2 y h0 (by omega)
      obtain ⟨d1, d2⟩ := hd y h0 (by omega)
      have u0 : sy (3000 + 5 * y) = ds y := by rw [hI2 _ (by omega) (by omega) (fun i i0 i1 _ => by omega)]; exact t0
      have u3 : sy (3000 + 5 * y + 3) = dr y := by rw [hI2 _ (by omega) (by omega) (fun i i0 i1 _ => by omega)]; exact t3
      have u4 : sy (3000 + 5 * y + 4) = if dl y = 0 then 0 else 1 := by rw [hI2 _ (by omega) (by omega) (fun i i0 i1 _ => by omega)]; exact t4
      have es : sI (fun i => if lb i = ln + 1 then (1 : Int) else 0) (y + 1) = sI (fun i => if lb i = ln + 1 then (1 : Int) else 0) y + (if lb y = ln + 1 then 1 else 0) := sI_s _ h0
      have skip : ¬ lb y = ln + 1 → LrI st lb ds dr (ln + 1) sy (y + 1) ∧ y1 = sI (fun i => if lb i = ln + 1 then 1 else 0) (y + 1) := by
        intro nl
        rw [if_neg nl] at es
        refine ⟨⟨fun s s0 s1 => ?_, fun k k0 k1 hk => hI2 k k0 k1 (fun i i0 i1 => hk i i0 (by omega)), fun i i0 i1 il => ?_⟩, by rw [es, hy]; omega⟩
        · rw [cntC_s h0, cntC_s h0, if_neg (fun z => nl z.1), if_neg (fun z => nl z.1), Int.add_zero, Int.add_zero]
          exact hI1 s s0 s1
        · by_cases e : i = y
          · rw [e] at il; exact absurd il nl
          · exact hI3 i i0 (by omega) il
      rw [u3, u4]
      by_cases c1 : dr y = -1
      · obtain ⟨k1, k2⟩ := skip (hm2 y h0 (by omega) (fun p => p.1 c1))
        obtain ⟨s1, q1, q2⟩ := ih sy y1 (y + 1) (by omega) (by omega) k1 k2 (by omega)
        refine ⟨s1, q1, ?_⟩
        repeat (first | (with_reducible refine gd_ok ?_ ?_; focus (first | omega | assumption | ((repeat' refine And.intro ?_ ?_) <;> first | omega | assumption) | fail)) | (with_reducible refine ip_ok ?_ ?_; focus (first | omega | assumption | ((repeat' refine And.intro ?_ ?_) <;> first | omega | assumption) | fail)) | (with_reducible refine in_ok ?_ ?_; focus (first | omega | assumption | ((repeat' refine And.intro ?_ ?_) <;> first | omega | assumption) | fail)) | (rw [so_bd]; try dsimp only))
        exact q2
      · by_cases c2 : dl y = 0
        · rw [if_pos c2]
          have il := hm1 y h0 (by omega) ⟨c1, c2⟩
          rw [if_pos il] at es
          have key : ∀ s1 w1, (s1 = 1000 ∧ dr y = 1 ∧ w1 = 1) ∨ (s1 = 0 ∧ dr y = 0 ∧ w1 = 0) → LrI st lb ds dr (ln + 1) (uP (uP sy (s1 + ds y) (sy (s1 + ds y) + 1)) (3000 + 5 * y + 4) 1) (y + 1) := by
            intro s1 w1 hs
            refine ⟨fun s s0 sm => ?_, fun k k0 k1 hk => ?_, fun i i0 i1 iq => ?_⟩
            · obtain ⟨p1, p2⟩ := hI1 s s0 sm
              have o1 : ∀ (x v : Int), uP (uP sy x v) (3000 + 5 * y + 4) 1 s = uP sy x v s := fun x v => uP_o _ _ (by omega)
              have o2 : ∀ (x v : Int), uP (uP sy x v) (3000 + 5 * y + 4) 1 (1000 + s) = uP sy x v (1000 + s) := fun x v => uP_o _ _ (by omega)
              rw [cntC_s h0, cntC_s h0, o1, o2]
              rcases hs with ⟨rfl, hs2, -⟩ | ⟨rfl, hs2, -⟩
              · rw [if_neg (fun z : lb y = ln + 1 ∧ ds y = s ∧ dr y = 0 => by omega), uP_o sy _ (show ¬ s = 1000 + ds y by omega)]
                by_cases e : s = ds y
                · rw [e] at p1 p2 ⊢
                  rw [uP_s, if_pos ⟨il, rfl, hs2⟩]
                  omega
                · rw [uP_o _ _ (show ¬ 1000 + s = 1000 + ds y by omega), if_neg (fun z => e z.2.1.symm)]
                  omega
              · rw [if_neg (fun z : lb y = ln + 1 ∧ ds y = s ∧ dr y = 1 => by omega), uP_o sy _ (show ¬ 1000 + s = 0 + ds y by omega)]
                by_cases e : s = ds y
                · rw [e] at p1 p2 ⊢
                  rw [Int.zero_add, uP_s, if_pos ⟨il, rfl, hs2⟩]
                  omega
                · rw [uP_o _ _ (show ¬ s = 0 + ds y by omega), if_neg (fun z => e z.2.1.symm)]
                  omega
            · rw [uP_o _ _ (hk y h0 (by omega) il), uP_o _ _ (by omega)]
              exact hI2 k k0 k1 (fun i i0 i1 => hk i i0 (by omega))
            · by_cases e : i = y
              · rw [e, uP_s]
              · rw [uP_o _ _ (by omega), uP_o _ _ (by omega)]
                exact hI3 i i0 (by omega) iq
          by_cases c3 : dr y = 1
          · obtain ⟨s1, q1, q2⟩ := ih _ (y1 + 1) (y + 1) (by omega) (by omega) (key 1000 1 (Or.inl ⟨rfl, c3, rfl⟩)) (by rw [es, hy]) (by omega)
            refine ⟨s1, q1, ?_⟩
            repeat (first | (with_reducible refine gd_ok ?_ ?_; focus (first | omega | assumption | ((repeat' refine And.intro ?_ ?_) <;> first | omega | assumption) | fail)) | (with_reducible refine ip_ok ?_ ?_; focus (first | omega | assumption | ((repeat' refine And.intro ?_ ?_) <;> first | omega | assumption) | fail)) | (with_reducible refine in_ok ?_ ?_; focus (first | omega | assumption | ((repeat' refine And.intro ?_ ?_) <;> first | omega | assumption) | fail)) | (rw [so_bd]; try dsimp only))
            rw [m_X13_learn_b78, u0]
            repeat (first | (with_reducible refine gd_ok ?_ ?_; focus (first | omega | assumption | ((repeat' refine And.intro ?_ ?_) <;> first | omega | assumption) | fail)) | (with_reducible refine ip_ok ?_ ?_; focus (first | omega | assumption | ((repeat' refine And.intro ?_ ?_) <;> first | omega | assumption) | fail)) | (with_reducible refine in_ok ?_ ?_; focus (first | omega | assumption | ((repeat' refine And.intro ?_ ?_) <;> first | omega | assumption) | fail)) | (rw [so_bd]; try dsimp only))
            exact q2
          · obtain ⟨s1, q1, q2⟩ := ih _ (y1 + 1) (y + 1) (by omega) (by omega) (key 0 0 (Or.inr ⟨rfl, by omega, rfl⟩)) (by rw [es, hy]) (by omega)
            refine ⟨s1, q1, ?_⟩
            repeat (first | (with_reducible refine gd_ok ?_ ?_; focus (first | omega | assumption | ((repeat' refine And.intro ?_ ?_) <;> first | omega | assumption) | fail)) | (with_reducible refine ip_ok ?_ ?_; focus (first | omega | assumption | ((repeat' refine And.intro ?_ ?_) <;> first | omega | assumption) | fail)) | (with_reducible refine in_ok ?_ ?_; focus (first | omega | assumption | ((repeat' refine And.intro ?_ ?_) <;> first | omega | assumption) | fail)) | (rw [so_bd]; try dsimp only))
            rw [m_X13_learn_b78, u0]
            repeat (first | (with_reducible refine gd_ok ?_ ?_; focus (first | omega | assumption | ((repeat' refine And.intro ?_ ?_) <;> first | omega | assumption) | fail)) | (with_reducible refine ip_ok ?_ ?_; focus (first | omega | assumption | ((repeat' refine And.intro ?_ ?_) <;> first | omega | assumption) | fail)) | (with_reducible refine in_ok ?_ ?_; focus (first | omega | assumption | ((repeat' refine And.intro ?_ ?_) <;> first | omega | assumption) | fail)) | (rw [so_bd]; try dsimp only))
            exact q2
        · rw [if_neg c2]
          obtain ⟨k1, k2⟩ := skip (hm2 y h0 (by omega) (fun p => c2 p.2))
          obtain ⟨s1, q1, q2⟩ := ih sy y1 (y + 1) (by omega) (by omega) k1 k2 (by omega)
          refine ⟨s1, q1, ?_⟩
          repeat (first | (with_reducible refine gd_ok ?_ ?_; focus (first | omega | assumption | ((repeat' refine And.intro ?_ ?_) <;> first | omega | assumption) | fail)) | (with_reducible refine ip_ok ?_ ?_; focus (first | omega | assumption | ((repeat' refine And.intro ?_ ?_) <;> first | omega | assumption) | fail)) | (with_reducible refine in_ok ?_ ?_; focus (first | omega | assumption | ((repeat' refine And.intro ?_ ?_) <;> first | omega | assumption) | fail)) | (rw [so_bd]; try dsimp only))
          exact q2
theorem ARel.lnup {ln' : Int} (h : ARel st le mo gc bc rc g b op dz ds dc da dr dl ln iz isc iop iba az ak a1 a2 a3 kp) (hl : ln ≤ ln' ∧ ln' ≤ 1000000) : ARel st le mo gc bc rc g b op dz ds dc da dr dl ln' iz isc iop iba az ak a1 a2 a3 kp := by
  obtain ⟨h1, h2, h3, ⟨c0, c1, c2, c3, c4, c5⟩, h5, h6⟩ := h
  exact ⟨h1, h2, h3, ⟨c0, c1, c2, c3, fun j j0 j1 q => by have := c4 j j0 j1 q; omega, c5⟩, ⟨by omega, hl.2⟩, fun i i0 i1 => by have := h6 i i0 i1; omega⟩
theorem sI_pos {f : Int → Int} (hf : ∀ i, f i = 0 ∨ f i = 1) {n : Int} (h : 0 ≤ n) (hp : sI f n ≠ 0) : ∃ i, (0 ≤ i ∧ i < n) ∧ f i = 1 := by
  rcases fst_or (fun i => f i = 1) n.toNat with ⟨i, a1, a2, -⟩ | hh
  · exact ⟨i, ⟨a1.1, by omega⟩, a2⟩
  · have e : sI f n = sI (fun _ => 0) n := sI_congr (fun j j0 j1 => by
      have q := hh j j0 (by omega)
      rcases hf j with z | z
      · exact z
      · exact absurd z q)
    rw [sI_zero h] at e
    exact absurd e hp
set_option maxHeartbeats 4000000 in
theorem s_learn (hN : 40000 ≤ N) (h : ARel st le mo gc bc rc g b op dz ds dc da dr dl ln iz isc iop iba az ak a1 a2 a3 kp) (hln : ln < 1000000) : ∃ a sd' g' b' ln' dl' az' ak' a1' a2' a3' st' kp' w', m_X12_learn N dz ds dr sd g b ln dl az ak a1 a2 a3 = some (a, sd', g', b', ln', dl', az', ak', a1', a2', a3') ∧ m_X13_learn N az st kp was = some (a, az', st', kp', w') ∧ ARel st' le mo gc bc rc g' b' op dz ds dc da dr dl' ln' iz isc iop iba az' ak' a1' a2' a3' kp' ∧ ln' = ln + 1 ∧ (sd' = 0 ∨ (sd' = sd ∧ g' = g ∧ b' = b)) := by
  have hA := h
  obtain ⟨hV, hP, hD, hC, hl, hdl⟩ := h
  have hz := hV.2.2.2.1
  have ez := hD.1
  rw [ez] at hz
  have hF := hP.fit hV
  have hd0 : ∀ i, 0 ≤ i → i < dz → (0 ≤ ds i ∧ ds i < 1000) ∧ (dr i = -1 ∨ dr i = 0 ∨ dr i = 1) := by
    intro i i0 i1
    obtain ⟨t0, t1, t2, t3, t4⟩ := hD.2 i i0 i1
    have q := hV.2.2.2.2.2 i i0 (by omega)
    rw [t0, t3] at q
    exact ⟨q.1, q.2.1⟩
  obtain ⟨w, w1, w2⟩ := remembers_ok (N := N) hN (st := st) (was := was)
  obtain ⟨lb, m1, m2, m3⟩ := mark_ok (N := N) (dz := dz) (dr := dr) (dl := dl) (ln := ln) hN hz (fun i i0 i1 => by
    have := hd0 i i0 i1
    have := hdl i i0 i1
    exact ⟨⟨by omega, by omega⟩, ⟨by omega, by omega⟩⟩) ⟨hl.1, hln⟩
  have m4 : ∀ i, 0 ≤ i → i < dz → ¬ pnd dr dl i → ¬ lb i = ln + 1 := fun i i0 i1 np q => by
    rw [m3 i (fun z => np z.2)] at q
    have := hdl i i0 i1
    omega
  have rlb : ∀ i, 0 ≤ i → i < dz → 0 ≤ lb i ∧ lb i ≤ ln + 1 := fun i i0 i1 => by
    by_cases p : pnd dr dl i
    · rw [m2 i i0 i1 p]; omega
    · rw [m3 i (fun z => p z.2)]
      have := hdl i i0 i1
      omega
  have rid : rI (ln + 1) := ⟨by omega, by omega⟩
  have li := learntIn_ok (N := N) (dz := dz) (lb := lb) (act := ln + 1) hN hz (fun i i0 i1 => by have := rlb i i0 i1; constructor <;> omega) rid
  have h01 : ∀ i, (if lb i = ln + 1 then (1 : Int) else 0) = 0 ∨ (if lb i = ln + 1 then (1 : Int) else 0) = 1 := fun i => by
    by_cases c : lb i = ln + 1
    · rw [if_pos c]; exact Or.inr rfl
    · rw [if_neg c]; exact Or.inl rfl
  have nb := sI_01 (f := fun i => if lb i = ln + 1 then (1 : Int) else 0) h01 hz.1
  obtain ⟨s1, hI, e1⟩ := rlearn_lp (N := N) (az := az) (kp := kp) (w := w) (lb := lb) (ln := ln) hN hD hz hd0 m2 m4 N st 0 0 (Int.le_refl 0) hz.1 ⟨fun s s0 s1 => by
    have z : ∀ w, cntC lb ds dr (ln + 1) w s 0 = 0 := fun _ => rfl
    rw [z, z]; omega, fun k _ _ _ => rfl, fun i i0 i1 => by omega⟩ rfl (by omega)
  obtain ⟨hI1, hI2, hI3⟩ := hI
  obtain ⟨g1, b1, v1, v2⟩ := dmove_ok (N := N) (ds := ds) (dr := dr) (lb := lb) (dz := dz) (act := ln + 1) (sign := 1) (g := g) (b := b) hN hz (fun i i0 i1 => by
    have := hd0 i i0 i1
    have := rlb i i0 i1
    exact ⟨by omega, by omega, ⟨by omega, by omega⟩⟩) rid
  have hsA : StA s1 g1 b1 := fun s s0 s1' => by
    obtain ⟨p1, p2⟩ := hI1 s s0 s1'
    obtain ⟨q1, q2⟩ := v2 s
    obtain ⟨o1, o2, -⟩ := hP.1 s s0 s1'
    rw [Int.one_mul] at q1 q2
    rw [p1, p2, q1, q2, o1, o2]
    exact ⟨rfl, rfl⟩
  obtain ⟨v, f1, f2, f3⟩ := fits_ok (N := N) hN hsA (fun s s0 s1' => by
    obtain ⟨q1, q2⟩ := v2 s
    have c0 := cntC_in lb ds dr (ln + 1) 0 s hz.1
    have c1 := cntC_in lb ds dr (ln + 1) 1 s hz.1
    have := hF.1 s s0 s1'
    rw [Int.one_mul] at q1 q2
    omega)
  have hw1 : ∀ k, 0 ≤ k → k < 3206 → rI (w k) := fun k k0 k1 => by rw [w2 k k0 k1]; exact hV.r k0 k1
  have ref : ∀ r1 r2 r3 r4, m_X13_ends N w az s1 kp (sI (fun i => if lb i = ln + 1 then 1 else 0) dz) = some (r1, r2, r3, r4) → m_X13_learn N az st kp was = some (r1, r2, r3, r4, w) := by
    intro r1 r2 r3 r4 hr
    rw [m_X13_learn]
    repeat (first | (with_reducible refine gd_ok ?_ ?_; focus (first | omega | assumption | ((repeat' refine And.intro ?_ ?_) <;> first | omega | assumption) | fail)) | (with_reducible refine ip_ok ?_ ?_; focus (first | omega | assumption | ((repeat' refine And.intro ?_ ?_) <;> first | omega | assumption) | fail)) | (with_reducible refine in_ok ?_ ?_; focus (first | omega | assumption | ((repeat' refine And.intro ?_ ?_) <;> first | omega | assumption) | fail)) | (rw [w1, so_bd]; try dsimp only) | (rw [so_bd]; try dsimp only))
    rw [e1]
    repeat (first | (with_reducible refine gd_ok ?_ ?_; focus (first | omega | assumption | ((repeat' refine And.intro ?_ ?_) <;> first | omega | assumption) | fail)) | (with_reducible refine ip_ok ?_ ?_; focus (first | omega | assumption | ((repeat' refine And.intro ?_ ?_) <;> first | omega | assumption) | fail)) | (with_reducible refine in_ok ?_ ?_; focus (first | omega | assumption | ((repeat' refine And.intro ?_ ?_) <;> first | omega | assumption) | fail)) | (rw [hr, so_bd]; try dsimp only) | (rw [so_bd]; try dsimp only))
    all_goals rfl
  by_cases n0 : sI (fun i => if lb i = ln + 1 then (1 : Int) else 0) dz = 0
  · have nol : ∀ i, 0 ≤ i → i < dz → ¬ lb i = ln + 1 := by
      intro i i0 i1 q
      have := sI_le_all (f := fun i => if lb i = ln + 1 then (1 : Int) else 0) (fun i => by have := h01 i; show 0 ≤ (if lb i = ln + 1 then (1 : Int) else 0); omega) i0 i1
      have e : (fun i => if lb i = ln + 1 then (1 : Int) else 0) i = 1 := if_pos q
      omega
    have lbe : lb = dl := by
      funext i
      refine m3 i (fun z => nol i z.1.1 z.1.2 (m2 i z.1.1 z.1.2 z.2))
    have cz : ∀ w s, cntC lb ds dr (ln + 1) w s dz = 0 := by
      intro w s
      have e : cntC lb ds dr (ln + 1) w s dz = sI (fun _ => 0) dz := sI_congr (fun j j0 j1 => if_neg (fun z => nol j j0 j1 z.1))
      rw [e, sI_zero hz.1]
    have es : ∀ k, 0 ≤ k → k < 3206 → s1 k = st k := by
      intro k k0 k1
      rcases (by omega : k < 1000 ∨ (1000 ≤ k ∧ k < 2000) ∨ 2000 ≤ k) with c | c | c
      · rw [(hI1 k k0 c).1, cz, Int.add_zero]
      · have := (hI1 (k - 1000) (by omega) (by omega)).2
        rw [cz, Int.add_zero, show 1000 + (k - 1000) = k by omega] at this
        exact this
      · exact hI2 k c k1 (fun i i0 i1 il => absurd il (nol i i0 i1))
    have hF1 : Fit g1 b1 := hF.of (fun s s0 s1' => by
      obtain ⟨q1, q2⟩ := v2 s
      rw [cz, Int.mul_zero, Int.add_zero] at q1 q2
      exact ⟨q1, q2⟩)
    have ev : v = 1 := by
      rcases f3 with q | q
      · exact absurd hF1 q.2
      · exact q.1
    rw [ev] at f2
    have k1 := keeps_no (N := N) (st := s1) (was := w) (kp := kp) (km := az) hN (fun k k0 k1 => ⟨by rw [es k k0 k1]; exact hV.r k0 k1, hw1 k k0 k1⟩) (fun k k0 k1 => by rw [es k k0 k1, w2 k k0 k1])
    rw [n0] at li ref
    refine ⟨0, sd, g, b, ln + 1, lb, az, ak, a1, a2, a3, s1, kp, w, ?_, ref _ _ _ _ ?_, ?_, rfl, Or.inr ⟨rfl, rfl, rfl⟩⟩
    · rw [m_X12_learn]
      repeat (first | (with_reducible refine gd_ok ?_ ?_; focus (first | omega | assumption | ((repeat' refine And.intro ?_ ?_) <;> first | omega | assumption) | fail)) | (with_reducible refine ip_ok ?_ ?_; focus (first | omega | assumption | ((repeat' refine And.intro ?_ ?_) <;> first | omega | assumption) | fail)) | (with_reducible refine in_ok ?_ ?_; focus (first | omega | assumption | ((repeat' refine And.intro ?_ ?_) <;> first | omega | assumption) | fail)) | (rw [m1, so_bd]; try dsimp only) | (rw [li, so_bd]; try dsimp only) | (rw [so_bd]; try dsimp only))
      all_goals rfl
    · rw [m_X13_ends]
      repeat (first | (with_reducible refine gd_ok ?_ ?_; focus (first | omega | assumption | ((repeat' refine And.intro ?_ ?_) <;> first | omega | assumption) | fail)) | (with_reducible refine ip_ok ?_ ?_; focus (first | omega | assumption | ((repeat' refine And.intro ?_ ?_) <;> first | omega | assumption) | fail)) | (with_reducible refine in_ok ?_ ?_; focus (first | omega | assumption | ((repeat' refine And.intro ?_ ?_) <;> first | omega | assumption) | fail)) | (rw [f2, so_bd]; try dsimp only) | (rw [k1, so_bd]; try dsimp only) | (rw [so_bd]; try dsimp only))
      all_goals rfl
    · rw [lbe]
      exact (hA.congr es).lnup ⟨by omega, by omega⟩
  · rcases f3 with ⟨ev, nF⟩ | ⟨ev, yF⟩
    · rw [ev] at f1 f2
      obtain ⟨st2, u1, u2⟩ := forgets_ok (N := N) hN (st := s1) (was := w)
      obtain ⟨g2, b2, x1, x2⟩ := dmove_ok (N := N) (ds := ds) (dr := dr) (lb := lb) (dz := dz) (act := ln + 1) (sign := -1) (g := g1) (b := b1) hN hz (fun i i0 i1 => by
        have := hd0 i i0 i1
        have := rlb i i0 i1
        exact ⟨by omega, by omega, ⟨by omega, by omega⟩⟩) rid
      obtain ⟨lb2, y1, y2⟩ := unmark_ok (N := N) (dz := dz) (lb := lb) (act := ln + 1) hN hz (fun i i0 i1 => by have := rlb i i0 i1; constructor <;> omega) rid
      have eg : g2 = g := by
        funext k
        rw [(x2 k).1, (v2 k).1]
        have : (-1 : Int) * cntC lb ds dr (ln + 1) 0 k dz = - (1 * cntC lb ds dr (ln + 1) 0 k dz) := by rw [Int.neg_mul]
        omega
      have eb : b2 = b := by
        funext k
        rw [(x2 k).2, (v2 k).2]
        have : (-1 : Int) * cntC lb ds dr (ln + 1) 1 k dz = - (1 * cntC lb ds dr (ln + 1) 1 k dz) := by rw [Int.neg_mul]
        omega
      have el : lb2 = dl := by
        funext i
        rw [y2 i]
        by_cases p : (0 ≤ i ∧ i < dz) ∧ pnd dr dl i
        · rw [if_pos ⟨p.1, m2 i p.1.1 p.1.2 p.2⟩, p.2.2]
        · rw [if_neg (fun z => m4 i z.1.1 z.1.2 (fun q => p ⟨z.1, q⟩) z.2), m3 i p]
      rw [eg, eb] at x1
      rw [el] at y1
      refine ⟨-5, sd, g, b, ln + 1, dl, az, ak, a1, a2, a3, st2, kp, w, ?_, ref _ _ _ _ ?_, (hA.congr (fun k k0 k1 => (u2 k k0 k1).trans (w2 k k0 k1))).lnup ⟨by omega, by omega⟩, rfl, Or.inr ⟨rfl, rfl, rfl⟩⟩
      · rw [m_X12_learn]
        repeat (first | (with_reducible refine gd_ok ?_ ?_; focus (first | omega | assumption | ((repeat' refine And.intro ?_ ?_) <;> first | omega | assumption) | fail)) | (with_reducible refine ip_ok ?_ ?_; focus (first | omega | assumption | ((repeat' refine And.intro ?_ ?_) <;> first | omega | assumption) | fail)) | (with_reducible refine in_ok ?_ ?_; focus (first | omega | assumption | ((repeat' refine And.intro ?_ ?_) <;> first | omega | assumption) | fail)) | (rw [m1, so_bd]; try dsimp only) | (rw [li, so_bd]; try dsimp only) | (rw [v1, so_bd]; try dsimp only) | (rw [f1, so_bd]; try dsimp only) | (rw [x1, so_bd]; try dsimp only) | (rw [y1, so_bd]; try dsimp only) | (rw [so_bd]; try dsimp only))
        all_goals rfl
      · rw [m_X13_ends]
        repeat (first | (with_reducible refine gd_ok ?_ ?_; focus (first | omega | assumption | ((repeat' refine And.intro ?_ ?_) <;> first | omega | assumption) | fail)) | (with_reducible refine ip_ok ?_ ?_; focus (first | omega | assumption | ((repeat' refine And.intro ?_ ?_) <;> first | omega | assumption) | fail)) | (with_reducible refine in_ok ?_ ?_; focus (first | omega | assumption | ((repeat' refine And.intro ?_ ?_) <;> first | omega | assumption) | fail)) | (rw [f2, so_bd]; try dsimp only) | (rw [u1, so_bd]; try dsimp only) | (rw [so_bd]; try dsimp only))
        all_goals rfl
    · rw [ev] at f1 f2
      obtain ⟨i, ib, il⟩ := sI_pos (f := fun i => if lb i = ln + 1 then (1 : Int) else 0) h01 hz.1 n0
      have il : lb i = ln + 1 := by
        by_cases c : lb i = ln + 1
        · exact c
        · have z : (fun i => if lb i = ln + 1 then (1 : Int) else 0) i = 0 := if_neg c
          omega
      have pi : pnd dr dl i := by
        by_cases p : pnd dr dl i
        · exact p
        · exact absurd il (m4 i ib.1 ib.2 p)
      have n32 : s1 3200 = dz := by rw [hI2 3200 (by decide) (by decide) (fun i i0 i1 _ => by omega)]; exact ez
      have o0 : ∀ i, 0 ≤ i → i < dz → s1 (3000 + 5 * i) = ds i ∧ s1 (3000 + 5 * i + 1) = dc i ∧ s1 (3000 + 5 * i + 2) = da i ∧ s1 (3000 + 5 * i + 3) = dr i := fun i i0 i1 => by
        obtain ⟨t0, t1, t2, t3, -⟩ := hD.2 i i0 i1
        rw [hI2 (3000 + 5 * i) (by omega) (by omega) (fun j j0 j1 _ => by omega), hI2 (3000 + 5 * i + 1) (by omega) (by omega) (fun j j0 j1 _ => by omega), hI2 (3000 + 5 * i + 2) (by omega) (by omega) (fun j j0 j1 _ => by omega), hI2 (3000 + 5 * i + 3) (by omega) (by omega) (fun j j0 j1 _ => by omega)]
        exact ⟨t0, t1, t2, t3⟩
      have o4 : ∀ i, 0 ≤ i → i < dz → s1 (3000 + 5 * i + 4) = if lb i = 0 then 0 else 1 := fun i i0 i1 => by
        by_cases q : lb i = ln + 1
        · rw [hI3 i i0 i1 q, if_neg (by omega)]
        · rw [hI2 (3000 + 5 * i + 4) (by omega) (by omega) (fun j j0 j1 jl => by
            intro e
            have : j = i := by omega
            rw [this] at jl
            exact q jl), m3 i (fun z => q (m2 i z.1.1 z.1.2 z.2))]
          exact (hD.2 i i0 i1).2.2.2.2
      have hV1 : StV s1 := hV.dec (yF.of (fun s s0 s1' => hsA s s0 s1')) (fun k k0 k1 => hI2 k k0 (by omega) (fun i i0 i1 _ => by omega)) (fun k k0 k1 => hI2 k (by omega) k1 (fun i i0 i1 _ => by omega)) (by rw [n32]; exact hz) (fun k k0 k1 => by
        by_cases q : ∃ i, (0 ≤ i ∧ i < dz) ∧ k = 3000 + 5 * i + 4
        · obtain ⟨j, jb, je⟩ := q
          rw [je, o4 j jb.1 jb.2]
          by_cases z : lb j = 0
          · rw [if_pos z]; omega
          · rw [if_neg z]; omega
        · rw [hI2 k (by omega) (by omega) (fun i i0 i1 _ e => q ⟨i, ⟨i0, i1⟩, e⟩)]
          exact hV.2.2.2.2.1 k k0 k1) (fun i i0 i1 => by
        rw [n32] at i1
        obtain ⟨t0, -, -, t3⟩ := o0 i i0 i1
        rw [t0, t3, o4 i i0 i1]
        refine ⟨(hd0 i i0 i1).1, (hd0 i i0 i1).2, ?_⟩
        by_cases z : lb i = 0
        · rw [if_pos z]; exact Or.inl rfl
        · rw [if_neg z]; exact Or.inr rfl)
      have cq : ∀ w s, cntR (nrm s1) lb (ln + 1) w s = cntC lb ds dr (ln + 1) w s dz := by
        intro w s
        unfold cntR cntC
        rw [nrm_at (by decide) (by decide), n32]
        refine sI_congr (fun j j0 j1 => ?_)
        obtain ⟨t0, -, -, t3⟩ := o0 j j0 j1
        show (if lb j = ln + 1 ∧ nrm s1 (3000 + 5 * j) = s ∧ nrm s1 (3000 + 5 * j + 3) = w then (1 : Int) else 0) = _
        rw [nrm_at (by omega) (by omega), nrm_at (by omega) (by omega), t0, t3]
      have hL : Link lb iz isc iop iba 6 (ln + 1) 0 0 (nrm st) (nrm s1) := by
        refine Or.inr (Or.inr (Or.inr (Or.inr (Or.inr (Or.inl ⟨rfl, by omega, fun s s0 s1' => ?_, fun x x0 x9 hx => ?_, fun i i0 i1 => ?_⟩)))))
        · rw [cq, cq, nrm_at s0 (by omega), nrm_at s0 (by omega), nrm_at (by omega) (by omega), nrm_at (by omega) (by omega), nrm_at (by omega) (by omega), nrm_at (by omega) (by omega), (hI1 s s0 s1').1, (hI1 s s0 s1').2, hI2 (2000 + s) (by omega) (by omega) (fun i i0 i1 _ => by omega)]
          omega
        · rw [nrm_at (by decide) (by decide), n32] at hx
          rw [nrm_at (by omega) x9, nrm_at (by omega) x9, hI2 x (by omega) x9 (fun i i0 i1 _ => hx i i0 i1)]
        · rw [nrm_at (by decide) (by decide), n32] at i1
          rw [nrm_at (by omega) (by omega), nrm_at (by omega) (by omega), (hD.2 i i0 i1).2.2.2.2, o4 i i0 i1]
          by_cases q : lb i = ln + 1
          · rw [if_pos q]
            have p : pnd dr dl i := by
              by_cases p : pnd dr dl i
              · exact p
              · exact absurd q (m4 i i0 i1 p)
            rw [if_pos p.2]
          · rw [if_neg q, m3 i (fun z => q (m2 i z.1.1 z.1.2 z.2))]
      obtain ⟨az', ak', a1', a2', a3', kp', q1, q2, q3⟩ := act_dec (N := N) (sd := sd) (ds1 := ds) (dc1 := dc) (da1 := da) (dr1 := dr) (dl1 := lb) (dz1 := dz) (ln1 := ln + 1) (g1 := g1) (b1 := b1) hN hA (v1 := 6) (by decide) w2 hsA (fun k k0 k1 => hI2 k k0 (by omega) (fun i i0 i1 _ => by omega)) (fun k k0 k1 => hI2 k (by omega) k1 (fun i i0 i1 _ => by omega)) hV1 ⟨n32, fun i i0 i1 => by
        obtain ⟨t0, t1, t2, t3⟩ := o0 i i0 i1
        exact ⟨t0, t1, t2, t3, o4 i i0 i1⟩⟩ (Int.le_refl _) hL ⟨⟨by omega, by omega⟩, fun _ => ⟨by omega, Int.le_refl _⟩⟩ rlb (fun a i a0 al i0 i1 => by
        by_cases p : pnd dr dl i
        · rw [m2 i i0 i1 p, p.2]
          omega
        · rw [m3 i (fun z => p z.2)]) (d := 3000 + 5 * i + 4) ⟨by omega, by omega⟩ (by rw [hI3 i ib.1 ib.2 il, (hD.2 i ib.1 ib.2).2.2.2.2, if_pos pi.2]; decide)
      refine ⟨sI (fun i => if lb i = ln + 1 then 1 else 0) dz, 0, g1, b1, ln + 1, lb, az', ak', a1', a2', a3', s1, kp', w, ?_, ref _ _ _ _ ?_, q3, rfl, Or.inl rfl⟩
      · rw [m_X12_learn]
        repeat (first | (with_reducible refine gd_ok ?_ ?_; focus (first | omega | assumption | ((repeat' refine And.intro ?_ ?_) <;> first | omega | assumption) | fail)) | (with_reducible refine ip_ok ?_ ?_; focus (first | omega | assumption | ((repeat' refine And.intro ?_ ?_) <;> first | omega | assumption) | fail)) | (with_reducible refine in_ok ?_ ?_; focus (first | omega | assumption | ((repeat' refine And.intro ?_ ?_) <;> first | omega | assumption) | fail)) | (rw [m1, so_bd]; try dsimp only) | (rw [li, so_bd]; try dsimp only) | (rw [v1, so_bd]; try dsimp only) | (rw [f1, so_bd]; try dsimp only) | (rw [q1, so_bd]; try dsimp only) | (rw [so_bd]; try dsimp only))
        all_goals rfl
      · rw [m_X13_ends]
        repeat (first | (with_reducible refine gd_ok ?_ ?_; focus (first | omega | assumption | ((repeat' refine And.intro ?_ ?_) <;> first | omega | assumption) | fail)) | (with_reducible refine ip_ok ?_ ?_; focus (first | omega | assumption | ((repeat' refine And.intro ?_ ?_) <;> first | omega | assumption) | fail)) | (with_reducible refine in_ok ?_ ?_; focus (first | omega | assumption | ((repeat' refine And.intro ?_ ?_) <;> first | omega | assumption) | fail)) | (rw [f2, so_bd]; try dsimp only) | (rw [q2, so_bd]; try dsimp only) | (rw [so_bd]; try dsimp only))
        all_goals rfl
end
