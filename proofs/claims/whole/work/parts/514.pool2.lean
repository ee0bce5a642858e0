section
variable {N : Nat} {z : Int} {c r : Int → Int}
theorem Td.fit {ats : Int} {sc go ba op rd it : Int → Int} (h : Td ats sc go ba op rd it) {G B O : Int → Int} (hG : ∀ x, 0 ≤ x → x < 1000 → G x = rd x ∧ B x = rd (1000 + x) ∧ O x = rd (2000 + x)) : (∀ x, 0 ≤ x → x < 1000 → (0 ≤ G x ∧ G x ≤ 99) ∧ (0 ≤ B x ∧ B x ≤ 99) ∧ (0 ≤ O x ∧ O x ≤ 99)) ∧ cn G B ≤ 60 ∧ cn O (fun _ => 0) ≤ 60 := by
  obtain ⟨h0, h1, h2, h3⟩ := h
  have hs : ∀ j, 0 ≤ j → j < ats → 0 ≤ sc j ∧ sc j < 1000 := fun j j0 j1 => by
    have := (h1 j j0 j1).1
    omega
  have hx : ∀ x, 0 ≤ x → x < 1000 → (G x = 0 ∧ B x = 0 ∧ O x = 0) ∨ Bx (∃ j, 0 ≤ j ∧ j < ats ∧ sc j = x) := fun x x0 x1 => by
    obtain ⟨e1, e2, e3⟩ := hG x x0 x1
    rcases h3 x x0 x1 with ⟨-, a1, a2, a3⟩ | ⟨-, hj⟩
    · exact Or.inl ⟨by rw [e1, a1], by rw [e2, a2], by rw [e3, a3]⟩
    · exact Or.inr (Bx.mk hj)
  refine ⟨fun x x0 x1 => ?_, ?_, ?_⟩
  · rcases hx x x0 x1 with ⟨a1, a2, a3⟩ | hj
    · rw [a1, a2, a3]; exact ⟨by decide, by decide, by decide⟩
    · obtain ⟨j, j0, j1, j2⟩ := hj.v
      obtain ⟨-, -, b1, b2, b3, b4, b5, b6⟩ := h1 j j0 j1
      obtain ⟨e1, e2, e3⟩ := hG x x0 x1
      rw [j2] at b1 b2 b3
      rw [e1, e2, e3, b1, b2, b3]
      exact ⟨b4, b5, b6⟩
  · refine Int.le_trans (cn_cover h0.1 hs (fun x x0 x1 hp => ?_)) h0.2
    rcases hx x x0 x1 with ⟨a1, a2, a3⟩ | hj
    · rw [a1, a2] at hp; exact absurd hp (by decide)
    · exact hj
  · refine Int.le_trans (cn_cover h0.1 hs (fun x x0 x1 hp => ?_)) h0.2
    rcases hx x x0 x1 with ⟨a1, a2, a3⟩ | hj
    · have hp' : 0 < O x + 0 := hp
      rw [a3] at hp'; exact absurd hp' (by decide)
    · exact hj
theorem Ru.st {tl le mo : Int} {co rr st st' : Int → Int} (h : Ru tl le mo co rr) (hs : st 3201 = 1 ∧ st 3202 = 60 ∧ st 3203 = 1 ∧ st 3204 = 5 ∧ st 3205 = 1) (h' : ∀ i, 0 ≤ i → i < 5 → st' (3201 + i) = if rr i = -1 then st (3201 + i) else rr i) : (st' 3201 = le ∧ st' 3202 = mo ∧ st' 3203 = co 0 ∧ st' 3204 = co 1 ∧ st' 3205 = co 2) ∧ ((0 ≤ le ∧ le ≤ 9999) ∧ (1 ≤ mo ∧ mo ≤ 60) ∧ (0 ≤ co 0 ∧ co 0 ≤ 999) ∧ (0 ≤ co 1 ∧ co 1 ≤ 999) ∧ (0 ≤ co 2 ∧ co 2 ≤ 999)) := by
  obtain ⟨a, b, d, -, -, -, -, ha, hb, hd⟩ := h
  obtain ⟨s1, s2, s3, s4, s5⟩ := hs
  have i0 : st' 3201 = if rr 0 = -1 then st 3201 else rr 0 := h' 0 (by decide) (by decide)
  have i1 : st' 3202 = if rr 1 = -1 then st 3202 else rr 1 := h' 1 (by decide) (by decide)
  have i2 : st' 3203 = if rr 2 = -1 then st 3203 else rr 2 := h' 2 (by decide) (by decide)
  have i3 : st' 3204 = if rr 3 = -1 then st 3204 else rr 3 := h' 3 (by decide) (by decide)
  have i4 : st' 3205 = if rr 4 = -1 then st 3205 else rr 4 := h' 4 (by decide) (by decide)
  have A : st' 3201 = le ∧ 0 ≤ le ∧ le ≤ 9999 := by
    rcases ha with ⟨-, r, e⟩ | ⟨-, r, e⟩
    · rw [if_pos r] at i0; omega
    · rw [if_neg (by omega)] at i0; omega
  have B : st' 3202 = mo ∧ 1 ≤ mo ∧ mo ≤ 60 := by
    rcases hb with ⟨-, r, e⟩ | ⟨-, r, e⟩
    · rw [if_pos r] at i1; omega
    · rw [if_neg (by omega)] at i1; omega
  rcases hd with ⟨-, ⟨r2, r3, r4⟩, c0, c1, c2⟩ | ⟨-, ⟨r2, r3, r4⟩, c0, c1, c2⟩
  · rw [if_pos r2] at i2
    rw [if_pos r3] at i3
    rw [if_pos r4] at i4
    omega
  · rw [if_neg (by omega)] at i2
    rw [if_neg (by omega)] at i3
    rw [if_neg (by omega)] at i4
    omega
theorem Ru.rng {tl le mo : Int} {co rr : Int → Int} (h : Ru tl le mo co rr) : ∀ i, 0 ≤ i → i < 5 → rI (rr i) := by
  obtain ⟨a, b, d, -, -, -, -, ha, hb, hd⟩ := h
  intro i i0 i1
  rcases (by omega : i = 0 ∨ i = 1 ∨ i = 2 ∨ i = 3 ∨ i = 4) with rfl | rfl | rfl | rfl | rfl
  · rcases ha with ⟨-, r, e⟩ | ⟨-, r, e⟩ <;> constructor <;> omega
  · rcases hb with ⟨-, r, e⟩ | ⟨-, r, e⟩ <;> constructor <;> omega
  · rcases hd with ⟨-, ⟨r2, r3, r4⟩, c0, c1, c2⟩ | ⟨-, ⟨r2, r3, r4⟩, c0, c1, c2⟩ <;> constructor <;> omega
  · rcases hd with ⟨-, ⟨r2, r3, r4⟩, c0, c1, c2⟩ | ⟨-, ⟨r2, r3, r4⟩, c0, c1, c2⟩ <;> constructor <;> omega
  · rcases hd with ⟨-, ⟨r2, r3, r4⟩, c0, c1, c2⟩ | ⟨-, ⟨r2, r3, r4⟩, c0, c1, c2⟩ <;> constructor <;> omega
set_option maxHeartbeats 4000000 in
theorem s_pool (hN : 40000 ≤ N) (h : TpR z c r) {em la : Nat} {kp sd ats ln le mo fk fp tl k s e v sle smo sgc sbc src dz az km mm fk2 fp2 ra ln2 at_ bg tk va bd : Int} {sc go ba op co g b o stt samp rd it rr : Int → Int} : ∃ ats' ln' le' mo' fk' fp' tl' k' s' e' v' sc' go' ba' op' co' ra' at' bg' tk' va' bd' rd' it' rr', (m_X12_pool N em c la kp sd z ats ln le mo fk fp tl k s e v sc go ba op co sle smo sgc sbc src g b o dz az = some (-4, la, kp, sd, 0, ats', ln', le', mo', fk', fp', tl', k', s', e', v', sc', go', ba', op', co', sle, smo, sgc, sbc, src, g, b, o, dz, az) ∧ m_X13_pool N r km mm z fk2 fp2 ra ln2 at_ bg tk va bd stt samp rd it rr = some (-4, km, mm, 0, fk', fp', ra', ln', at', bg', tk', va', bd', stt, samp, rd', it', rr')) ∨ (∃ g' b' o' st' sa', m_X12_pool N em c la kp sd z ats ln le mo fk fp tl k s e v sc go ba op co sle smo sgc sbc src g b o dz az = some (ln', em, 0, 0, 0, ats', ln', le', mo', fk', fp', tl', k', s', e', v', sc', go', ba', op', co', le', mo', co' 0, co' 1, co' 2, g', b', o', 0, 0) ∧ m_X13_pool N r km mm z fk2 fp2 ra ln2 at_ bg tk va bd stt samp rd it rr = some (ln', 0, 0, 0, fk', fp', ra', ln', at', bg', tk', va', bd', st', sa', rd', it', rr') ∧ StV st' ∧ PoR st' le' mo' (co' 0) (co' 1) (co' 2) g' b' o' ∧ st' 3200 = 0 ∧ ∀ x, 0 ≤ x → x < 1000 → sa' x = 0) := by
  obtain ⟨ats', le', mo', tl', ln', fk', fp', k', s', e', v', sc', go', ba', op', co', okk, ra', at', bg', tk', va', bd', rd', it', rr', X, Y, hok, hFR, hC1, hC2, hln, hB⟩ := b_reads (N := N) hN h (x1 := 1) (x2 := 0) (Or.inl ⟨rfl, rfl⟩) (ats := ats) (ln := ln) (le := le) (mo := mo) (fk := fk) (fp := fp) (tl := tl) (k := k) (s := s) (e := e) (v := v) (fk' := fk2) (fp' := fp2) (ra := ra) (ln' := ln2) (at_ := at_) (bg := bg) (tk := tk) (va := va) (bd := bd) (sc := sc) (go := go) (ba := ba) (op := op) (co := co) (rd := rd) (it := it) (rr := rr)
  refine ⟨ats', ln', le', mo', fk', fp', tl', k', s', e', v', sc', go', ba', op', co', ra', at', bg', tk', va', bd', rd', it', rr', ?_⟩
  have hfk := hFR
  unfold FR at hfk
  rcases hok with ⟨f0, rfl⟩ | ⟨f0, rfl⟩
  · obtain ⟨-, hT, hR⟩ := hB.v f0
    obtain ⟨g', b', o', t1, t2⟩ := take_ok (N := N) hN (p1 := le') (p2 := mo') (l := sle) (m := smo) (gc := sgc) (bc := sbc) (rc := src) (co := co') (g := g) (b := b) (o := o) hT
    obtain ⟨st1, sa1, n1, n2, n3, n4⟩ := begins_ok (N := N) hN (km := km) (mm := mm) (st := stt) (sa := samp)
    obtain ⟨st2, p1, p2, p3, p4⟩ := pool_b17_ok (N := N) (km := 0) (mm := 0) (tz := 0) (fk := fk') (fp := fp') (ra := ra') (ln := ln') (at_ := at') (bg := bg') (tk := tk') (va := va') (bd := bd') (tape := r) (sa := sa1) (rd := rd') (it := it') (rr := rr') hN hR.rng N st1 0 (by decide) (by decide) (fun k k0 k1 => by omega) (by omega)
    obtain ⟨q1, q2⟩ := hR.st n3 p4
    obtain ⟨w1, w2, w3⟩ := hT.fit (G := fun s => st2 s) (B := fun s => st2 (1000 + s)) (O := fun s => st2 (2000 + s)) (fun x x0 x1 => ⟨p2 x x0 (by omega), p2 (1000 + x) (by omega) (by omega), p2 (2000 + x) (by omega) (by omega)⟩)
    refine Or.inr ⟨g', b', o', st2, sa1, ?_, ?_, ?_, ?_, ?_, n4⟩
    · rw [m_X12_pool, X, so_bd]
      dsimp only
      refine gd_ok ⟨by omega, by omega⟩ (ip_ok f0 ?_)
      rw [t1, so_bd]
    · rw [m_X13_pool, Y, so_bd]
      dsimp only
      refine gd_ok ⟨by decide, by decide⟩ (in_ok (by decide) ?_)
      rw [n1, so_bd]
      exact p1
    · have d0 : st2 3200 = 0 := by rw [p3 3200 (by decide) (by decide)]; exact n2 3200 (by decide) (by decide)
      refine ⟨⟨fun x x0 x1 => ⟨(w1 x x0 x1).1, (w1 x x0 x1).2.1⟩, w2⟩, ⟨fun x x0 x1 => (w1 x x0 x1).2.2, w3⟩, ?_, ⟨by omega, by omega⟩, fun k k0 k1 => ?_, fun i i0 i1 => by omega⟩
      · rw [q1.1, q1.2.1, q1.2.2.1, q1.2.2.2.1, q1.2.2.2.2]
        exact q2
      · rw [p3 k k0 (by omega), n2 k (by omega) (by omega)]
        exact ⟨by decide, by decide⟩
    · exact ⟨fun x x0 x1 => ⟨by rw [p2 x x0 (by omega), (t2 x x0 x1).1], by rw [p2 (1000 + x) (by omega) (by omega), (t2 x x0 x1).2.1], by rw [p2 (2000 + x) (by omega) (by omega), (t2 x x0 x1).2.2]⟩, q1⟩
    · rw [p3 3200 (by decide) (by decide)]; exact n2 3200 (by decide) (by decide)
  · refine Or.inl ⟨?_, ?_⟩
    · rw [m_X12_pool, X, so_bd]
      dsimp only
      exact gd_ok ⟨by omega, by omega⟩ (in_ok f0 rfl)
    · rw [m_X13_pool, Y, so_bd]
      dsimp only
      exact gd_ok ⟨by decide, by decide⟩ (ip_ok rfl rfl)
end
