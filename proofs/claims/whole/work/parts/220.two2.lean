/-! the best two cuts: the reference -/
section
variable {N : Nat} {g b stt sc go ba bl : Int → Int} {gc bc rc z : Int}
def rtI (K : Int → Int → Int) (c d o p v : Int) : Prop := (0 ≤ o ∧ o ≤ p ∧ p ≤ 1000) ∧ (o < c ∨ (o = c ∧ p ≤ d)) ∧ v = K o p ∧ ∀ c' d', 0 ≤ c' → c' ≤ d' → d' ≤ 1000 → (c' < c ∨ (c' = c ∧ d' < d)) → v < K c' d' ∨ (v = K c' d' ∧ (o < c' ∨ (o = c' ∧ p ≤ d')))
theorem rt_b51 (ok : okP g b) (hb : BlA g b bl) (hcs : stt 3203 = gc ∧ stt 3204 = bc ∧ stt 3205 = rc) (hgc : 0 ≤ gc ∧ gc ≤ 999) (hbc : 0 ≤ bc ∧ bc ≤ 999) (hrc : 0 ≤ rc ∧ rc ≤ 999) {c : Int} (hc : 0 ≤ c ∧ c ≤ 1000) (k42 : Int → Int → Int → Int → Option (Int × Int × Int × Int × (Int → Int) × (Int → Int) × (Int → Int) × (Int → Int))) : ∀ (f : Nat) (o p v d : Int), c ≤ d → d ≤ 1001 → rtI (fun c d => kst g b gc bc rc (lb g b c) (lb g b d)) c d o p v → (1001 - d).toNat < f → ∃ o' p' v', m_X13_laysTwo_b51 N stt z sc go ba bl c k42 f o p v d = k42 o' p' v' (c + 1) ∧ rtI (fun c d => kst g b gc bc rc (lb g b c) (lb g b d)) c 1001 o' p' v' := by
  obtain ⟨c3, c4, c5⟩ := hcs
  intro f
  induction f with
  | zero => intro o p v d _ _ _ h; omega
  | succ f ih =>
    intro o p v d h0 h1 hI hf
    rw [m_X13_laysTwo_b51, c3, c4]
    by_cases e : 1000 < d
    · have ed : d = 1001 := by omega
      rw [ed] at hI
      refine ⟨o, p, v, ?_, hI⟩
      repeat (first | (with_reducible refine gd_ok ?_ ?_; focus (first | omega | assumption | ((repeat' refine And.intro ?_ ?_) <;> first | omega | assumption) | fail)) | (with_reducible refine ip_ok ?_ ?_; focus (first | omega | assumption | ((repeat' refine And.intro ?_ ?_) <;> first | omega | assumption) | fail)) | (with_reducible refine in_ok ?_ ?_; focus (first | omega | assumption | ((repeat' refine And.intro ?_ ?_) <;> first | omega | assumption) | fail)) | (rw [so_bd]; try dsimp only))
      all_goals rfl
    · obtain ⟨a1, a2, a3, a4⟩ := hI
      have l1 := lb_in (g := g) (b := b) (c := c) (by omega)
      have l2 := lb_in (g := g) (b := b) (c := d) (by omega)
      have l3 := lb_in (g := g) (b := b) (c := o) (by omega)
      have l4 := lb_in (g := g) (b := b) (c := p) (by omega)
      have k1 := kst_in ok hgc hbc hrc l1.1 (lb_mono (g := g) (b := b) h0) l2.2
      have k2 := kst_in ok hgc hbc hrc l3.1 (lb_mono (g := g) (b := b) a1.2.1) l4.2
      have a3 : v = kst g b gc bc rc (lb g b o) (lb g b p) := a3
      by_cases q : v ≤ kst g b gc bc rc (lb g b c) (lb g b d)
      · obtain ⟨o', p', v', q1, q2⟩ := ih o p v (d + 1) (by omega) (by omega) ⟨a1, by omega, a3, fun c' d' x1 x2 x3 x4 => by
          by_cases y : c' = c ∧ d' = d
          · obtain ⟨rfl, rfl⟩ := y
            show v < kst g b gc bc rc (lb g b c') (lb g b d') ∨ (v = kst g b gc bc rc (lb g b c') (lb g b d') ∧ _)
            omega
          · exact a4 c' d' x1 x2 x3 (by omega)⟩ (by omega)
        refine ⟨o', p', v', ?_, q2⟩
        repeat (first | (with_reducible refine gd_ok ?_ ?_; focus (first | omega | assumption | ((repeat' refine And.intro ?_ ?_) <;> first | omega | assumption) | fail)) | (with_reducible refine ip_ok ?_ ?_; focus (first | omega | assumption | ((repeat' refine And.intro ?_ ?_) <;> first | omega | assumption) | fail)) | (with_reducible refine in_ok ?_ ?_; focus (first | omega | assumption | ((repeat' refine And.intro ?_ ?_) <;> first | omega | assumption) | fail)) | (rw [costOf_ok hb c5 hgc hbc hrc hc ⟨by omega, by omega⟩, so_bd]; try dsimp only) | (rw [so_bd]; try dsimp only))
        exact q1
      · obtain ⟨o', p', v', q1, q2⟩ := ih c d (kst g b gc bc rc (lb g b c) (lb g b d)) (d + 1) (by omega) (by omega) ⟨⟨hc.1, h0, by omega⟩, by omega, rfl, fun c' d' x1 x2 x3 x4 => by
          by_cases y : c' = c ∧ d' = d
          · obtain ⟨rfl, rfl⟩ := y
            exact Or.inr ⟨rfl, Or.inr ⟨rfl, Int.le_refl _⟩⟩
          · have := a4 c' d' x1 x2 x3 (by omega)
            left
            omega⟩ (by omega)
        refine ⟨o', p', v', ?_, q2⟩
        repeat (first | (with_reducible refine gd_ok ?_ ?_; focus (first | omega | assumption | ((repeat' refine And.intro ?_ ?_) <;> first | omega | assumption) | fail)) | (with_reducible refine ip_ok ?_ ?_; focus (first | omega | assumption | ((repeat' refine And.intro ?_ ?_) <;> first | omega | assumption) | fail)) | (with_reducible refine in_ok ?_ ?_; focus (first | omega | assumption | ((repeat' refine And.intro ?_ ?_) <;> first | omega | assumption) | fail)) | (rw [costOf_ok hb c5 hgc hbc hrc hc ⟨by omega, by omega⟩, so_bd]; try dsimp only) | (rw [so_bd]; try dsimp only))
        exact q1
theorem rt_b42 (hN : 40000 ≤ N) (ok : okP g b) (hb : BlA g b bl) (hcs : stt 3203 = gc ∧ stt 3204 = bc ∧ stt 3205 = rc) (hgc : 0 ≤ gc ∧ gc ≤ 999) (hbc : 0 ≤ bc ∧ bc ≤ 999) (hrc : 0 ≤ rc ∧ rc ≤ 999) : ∀ (f : Nat) (o p v c : Int), 0 ≤ c → c ≤ 1001 → rtI (fun c d => kst g b gc bc rc (lb g b c) (lb g b d)) c c o p v → (1001 - c).toNat < f → ∃ o' p', m_X13_laysTwo_b42 N stt z sc go ba bl f o p v c = some (z, o', p', kst g b gc bc rc (lb g b o') (lb g b p'), sc, go, ba, bl) ∧ Bst (fun c d => kst g b gc bc rc (lb g b c) (lb g b d)) 1000 o' p' := by
  intro f
  induction f with
  | zero => intro o p v c _ _ _ h; omega
  | succ f ih =>
    intro o p v c h0 h1 hI hf
    rw [m_X13_laysTwo_b42]
    by_cases e : 1000 < c
    · obtain ⟨a1, a2, a3, a4⟩ := hI
      have a3 : v = kst g b gc bc rc (lb g b o) (lb g b p) := a3
      refine ⟨o, p, ?_, a1, fun c' d' x1 x2 x3 => ?_⟩
      · repeat (first | (with_reducible refine gd_ok ?_ ?_; focus (first | omega | assumption | ((repeat' refine And.intro ?_ ?_) <;> first | omega | assumption) | fail)) | (with_reducible refine ip_ok ?_ ?_; focus (first | omega | assumption | ((repeat' refine And.intro ?_ ?_) <;> first | omega | assumption) | fail)) | (with_reducible refine in_ok ?_ ?_; focus (first | omega | assumption | ((repeat' refine And.intro ?_ ?_) <;> first | omega | assumption) | fail)) | (rw [so_bd]; try dsimp only))
        rw [a3]
      · have := a4 c' d' x1 x2 x3 (by omega)
        rw [a3] at this
        exact this
    · obtain ⟨o', p', v', q1, q2⟩ := rt_b51 (N := N) (z := z) (sc := sc) (go := go) (ba := ba) ok hb hcs hgc hbc hrc (c := c) ⟨h0, by omega⟩ (m_X13_laysTwo_b42 N stt z sc go ba bl f) N o p v c (Int.le_refl _) (by omega) hI (by omega)
      obtain ⟨a1, a2, a3, a4⟩ := q2
      obtain ⟨o2, p2, r1, r2⟩ := ih o' p' v' (c + 1) (by omega) (by omega) ⟨a1, by omega, a3, fun c' d' x1 x2 x3 x4 => a4 c' d' x1 x2 x3 (by omega)⟩ (by omega)
      refine ⟨o2, p2, ?_, r2⟩
      repeat (first | (with_reducible refine gd_ok ?_ ?_; focus (first | omega | assumption | ((repeat' refine And.intro ?_ ?_) <;> first | omega | assumption) | fail)) | (with_reducible refine ip_ok ?_ ?_; focus (first | omega | assumption | ((repeat' refine And.intro ?_ ?_) <;> first | omega | assumption) | fail)) | (with_reducible refine in_ok ?_ ?_; focus (first | omega | assumption | ((repeat' refine And.intro ?_ ?_) <;> first | omega | assumption) | fail)) | (rw [so_bd]; try dsimp only))
      rw [q1]
      exact r1
theorem laysTwo_ok (hN : 40000 ≤ N) (ok : okP g b) (hst : StA stt g b) (hcs : stt 3203 = gc ∧ stt 3204 = bc ∧ stt 3205 = rc) (hgc : 0 ≤ gc ∧ gc ≤ 999) (hbc : 0 ≤ bc ∧ bc ≤ 999) (hrc : 0 ≤ rc ∧ rc ≤ 999) {i j : Int} (hB : Bst (kst g b gc bc rc) (cn g b) i j) {t1 t2 t3 : Int} : ∃ sc' go' ba' bl', m_X13_laysTwo N stt z t1 t2 t3 sc go ba bl = some (cn g b, cutB g b i, cutB g b j, kst g b gc bc rc i j, sc', go', ba', bl') := by
  obtain ⟨sc1, go1, ba1, bl1, lb1, hr, hbl⟩ := laysBelow_ok (z := z) (s1 := sc) (s2 := go) (s3 := ba) (bl := bl) hN ok hst
  obtain ⟨o, p, q1, q2⟩ := rt_b42 (N := N) (z := cn g b) (sc := sc1) (go := go1) (ba := ba1) hN ok hbl hcs hgc hbc hrc N 0 0 (kst g b gc bc rc (lb g b 0) (lb g b 0)) 0 (Int.le_refl 0) (by decide) ⟨⟨by decide, by decide, by decide⟩, by omega, rfl, fun c' d' x1 x2 x3 x4 => by omega⟩ (by omega)
  have u := Bst.uniq q2 (Bst_lb hB)
  have e1 := lb_cutB (g := g) (b := b) (i := i) ⟨hB.1.1, by have := hB.1; omega⟩
  have e2 := lb_cutB (g := g) (b := b) (i := j) ⟨by have := hB.1; omega, hB.1.2.2⟩
  rw [u.1, u.2, e1, e2] at q1
  obtain ⟨c3, c4, c5⟩ := hcs
  refine ⟨sc1, go1, ba1, bl1, ?_⟩
  rw [m_X13_laysTwo, c3, c4]
  repeat (first | (with_reducible refine gd_ok ?_ ?_; focus (first | omega | assumption | ((repeat' refine And.intro ?_ ?_) <;> first | omega | assumption) | fail)) | (with_reducible refine ip_ok ?_ ?_; focus (first | omega | assumption | ((repeat' refine And.intro ?_ ?_) <;> first | omega | assumption) | fail)) | (with_reducible refine in_ok ?_ ?_; focus (first | omega | assumption | ((repeat' refine And.intro ?_ ?_) <;> first | omega | assumption) | fail)) | (rw [lb1, so_bd]; try dsimp only) | (rw [costOf_ok hbl c5 hgc hbc hrc (c := 0) (d := 0) ⟨by decide, by decide⟩ ⟨by decide, by decide⟩, so_bd]; try dsimp only) | (rw [so_bd]; try dsimp only))
  exact q1
end
section
variable {N : Nat} {g b stt : Int → Int} {le mo sp run run' : Int} {sd rz pz bz : Int} {rsc rgo rba rgA rbA ple pgr pgo pba pri ble bgr bgo bba bri : Int → Int} {rsc' rgo' rba' rgA' rbA' ple' pgr' pgo' pba' pri' ble' bgr' bgo' bba' bri' : Int → Int} {z1 z2 : Int} {s1 s2 s3 s4 : Int → Int}
theorem q_two (hN : 40000 ≤ N) (ok : okP g b) (hle : 0 ≤ le ∧ le ≤ 9999) (hmo : 1 ≤ mo ∧ mo ≤ 60) (hset : m_X12_settle N le mo g b sp sd rz rsc rgo rba rgA rbA pz ple pgr pgo pba pri bz ble bgr bgo bba bri run = some (1, cn g b, rsc', rgo', rba', rgA', rbA', pmm g b, ple', pgr', pgo', pba', pri', bmm g b le mo, ble', bgr', bgo', bba', bri', run')) (hS : Stl g b le mo rsc' rgo' rba' rgA' rbA' ple' pgr' pgo' pba' pri' ble' bgr' bgo' bba' bri') (hst : StA stt g b) (h3 : stt 3201 = le ∧ stt 3202 = mo) {gc bc rc : Int} (hcs : stt 3203 = gc ∧ stt 3204 = bc ∧ stt 3205 = rc) (hgc : 0 ≤ gc ∧ gc ≤ 999) (hbc : 0 ≤ bc ∧ bc ≤ 999) (hrc : 0 ≤ rc ∧ rc ≤ 999) {o1 o2 o3 l u t x1 : Int} (hx1 : rI x1) : ∃ a l' u' t', (m_X12_two N le mo gc bc rc g b sp sd rz rsc rgo rba rgA rbA pz ple pgr pgo pba pri bz ble bgr bgo bba bri l u t run x1 = some (a, 1, cn g b, rsc', rgo', rba', rgA', rbA', pmm g b, ple', pgr', pgo', pba', pri', bmm g b le mo, ble', bgr', bgo', bba', bri', l', u', t', run') ∨ m_X12_two N le mo gc bc rc g b sp sd rz rsc rgo rba rgA rbA pz ple pgr pgo pba pri bz ble bgr bgo bba bri l u t run x1 = some (a, sd, rz, rsc, rgo, rba, rgA, rbA, pz, ple, pgr, pgo, pba, pri, bz, ble, bgr, bgo, bba, bri, l', u', t', run)) ∧ Rt (m_X13_two N stt z1 o1 o2 o3 s1 s2 s3 s4 x1) a := by
  obtain ⟨hn, hbm, hpm⟩ := le_mo ok hle hmo
  obtain ⟨S1, S2, S3, S4⟩ := hS
  obtain ⟨i, j, e1, hB⟩ := seek_ok (N := N) (l := l) (u := u) (t := t) hN ok S1 S2 hgc hbc hrc
  obtain ⟨sc1, go1, ba1, bl1, e2⟩ := laysTwo_ok (N := N) (z := z1) (sc := s1) (go := s2) (ba := s3) (bl := s4) (t1 := o1) (t2 := o2) (t3 := o3) hN ok hst hcs hgc hbc hrc hB
  rw [m_X12_two, m_X13_two]
  by_cases c : 0 ≤ x1 ∧ x1 ≤ 2
  · have i1 := in1 (N := N) (rI_L hx1) ⟨by decide, by decide⟩ ⟨by decide, by decide⟩ c
    rcases (by omega : x1 = 0 ∨ x1 = 1 ∨ x1 = 2) with e | e | e
    · refine ⟨cutB g b i, cutB g b i, cutB g b j, kst g b gc bc rc i j, Or.inl ?_, ?_⟩
      rotate_left
      · repeat (first | (with_reducible refine Rt.gd ?_ ?_; focus (first | omega | assumption | ((repeat' refine And.intro ?_ ?_) <;> first | omega | assumption) | fail)) | (with_reducible refine Rt.ip ?_ ?_; focus (first | omega | assumption | ((repeat' refine And.intro ?_ ?_) <;> first | omega | assumption) | fail)) | (with_reducible refine Rt.in_ ?_ ?_; focus (first | omega | assumption | ((repeat' refine And.intro ?_ ?_) <;> first | omega | assumption) | fail)) | (rw [i1, so_bd]; try dsimp only) | (rw [e2, so_bd]; try dsimp only) | (rw [so_bd]; try dsimp only))
        all_goals exact Rt.so
      · repeat (first | (with_reducible refine gd_ok ?_ ?_; focus (first | omega | assumption | ((repeat' refine And.intro ?_ ?_) <;> first | omega | assumption) | fail)) | (with_reducible refine ip_ok ?_ ?_; focus (first | omega | assumption | ((repeat' refine And.intro ?_ ?_) <;> first | omega | assumption) | fail)) | (with_reducible refine in_ok ?_ ?_; focus (first | omega | assumption | ((repeat' refine And.intro ?_ ?_) <;> first | omega | assumption) | fail)) | (rw [hset, so_bd]; try dsimp only) | (rw [e1, so_bd]; try dsimp only) | (rw [so_bd]; try dsimp only))
        all_goals rfl
    · refine ⟨cutB g b j, cutB g b i, cutB g b j, kst g b gc bc rc i j, Or.inl ?_, ?_⟩
      rotate_left
      · repeat (first | (with_reducible refine Rt.gd ?_ ?_; focus (first | omega | assumption | ((repeat' refine And.intro ?_ ?_) <;> first | omega | assumption) | fail)) | (with_reducible refine Rt.ip ?_ ?_; focus (first | omega | assumption | ((repeat' refine And.intro ?_ ?_) <;> first | omega | assumption) | fail)) | (with_reducible refine Rt.in_ ?_ ?_; focus (first | omega | assumption | ((repeat' refine And.intro ?_ ?_) <;> first | omega | assumption) | fail)) | (rw [i1, so_bd]; try dsimp only) | (rw [e2, so_bd]; try dsimp only) | (rw [so_bd]; try dsimp only))
        all_goals exact Rt.so
      · repeat (first | (with_reducible refine gd_ok ?_ ?_; focus (first | omega | assumption | ((repeat' refine And.intro ?_ ?_) <;> first | omega | assumption) | fail)) | (with_reducible refine ip_ok ?_ ?_; focus (first | omega | assumption | ((repeat' refine And.intro ?_ ?_) <;> first | omega | assumption) | fail)) | (with_reducible refine in_ok ?_ ?_; focus (first | omega | assumption | ((repeat' refine And.intro ?_ ?_) <;> first | omega | assumption) | fail)) | (rw [hset, so_bd]; try dsimp only) | (rw [e1, so_bd]; try dsimp only) | (rw [so_bd]; try dsimp only))
        all_goals rfl
    · refine ⟨kst g b gc bc rc i j, cutB g b i, cutB g b j, kst g b gc bc rc i j, Or.inl ?_, ?_⟩
      rotate_left
      · repeat (first | (with_reducible refine Rt.gd ?_ ?_; focus (first | omega | assumption | ((repeat' refine And.intro ?_ ?_) <;> first | omega | assumption) | fail)) | (with_reducible refine Rt.ip ?_ ?_; focus (first | omega | assumption | ((repeat' refine And.intro ?_ ?_) <;> first | omega | assumption) | fail)) | (with_reducible refine Rt.in_ ?_ ?_; focus (first | omega | assumption | ((repeat' refine And.intro ?_ ?_) <;> first | omega | assumption) | fail)) | (rw [i1, so_bd]; try dsimp only) | (rw [e2, so_bd]; try dsimp only) | (rw [so_bd]; try dsimp only))
        all_goals exact Rt.so
      · repeat (first | (with_reducible refine gd_ok ?_ ?_; focus (first | omega | assumption | ((repeat' refine And.intro ?_ ?_) <;> first | omega | assumption) | fail)) | (with_reducible refine ip_ok ?_ ?_; focus (first | omega | assumption | ((repeat' refine And.intro ?_ ?_) <;> first | omega | assumption) | fail)) | (with_reducible refine in_ok ?_ ?_; focus (first | omega | assumption | ((repeat' refine And.intro ?_ ?_) <;> first | omega | assumption) | fail)) | (rw [hset, so_bd]; try dsimp only) | (rw [e1, so_bd]; try dsimp only) | (rw [so_bd]; try dsimp only))
        all_goals rfl
  · refine ⟨-2, l, u, t, Or.inr ?_, ?_⟩
    · by_cases d : x1 < 0
      · repeat (first | (with_reducible refine gd_ok ?_ ?_; focus (first | omega | assumption | ((repeat' refine And.intro ?_ ?_) <;> first | omega | assumption) | fail)) | (with_reducible refine ip_ok ?_ ?_; focus (first | omega | assumption | ((repeat' refine And.intro ?_ ?_) <;> first | omega | assumption) | fail)) | (with_reducible refine in_ok ?_ ?_; focus (first | omega | assumption | ((repeat' refine And.intro ?_ ?_) <;> first | omega | assumption) | fail)) | (rw [so_bd]; try dsimp only))
        all_goals rfl
      · repeat (first | (with_reducible refine gd_ok ?_ ?_; focus (first | omega | assumption | ((repeat' refine And.intro ?_ ?_) <;> first | omega | assumption) | fail)) | (with_reducible refine ip_ok ?_ ?_; focus (first | omega | assumption | ((repeat' refine And.intro ?_ ?_) <;> first | omega | assumption) | fail)) | (with_reducible refine in_ok ?_ ?_; focus (first | omega | assumption | ((repeat' refine And.intro ?_ ?_) <;> first | omega | assumption) | fail)) | (rw [so_bd]; try dsimp only))
        all_goals rfl
    · repeat (first | (with_reducible refine Rt.gd ?_ ?_; focus (first | omega | assumption | ((repeat' refine And.intro ?_ ?_) <;> first | omega | assumption) | fail)) | (with_reducible refine Rt.ip ?_ ?_; focus (first | omega | assumption | ((repeat' refine And.intro ?_ ?_) <;> first | omega | assumption) | fail)) | (with_reducible refine Rt.in_ ?_ ?_; focus (first | omega | assumption | ((repeat' refine And.intro ?_ ?_) <;> first | omega | assumption) | fail)) | (rw [in0 (rI_L hx1) ⟨by decide, by decide⟩ ⟨by decide, by decide⟩ c, so_bd]; try dsimp only) | (rw [so_bd]; try dsimp only))
      all_goals exact Rt.so
end
