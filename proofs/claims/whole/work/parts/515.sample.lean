/-! SAMPLE: what was read becomes the latest sample -/
section
variable {N : Nat}
def SmQ (n t : Int) (sc ca p : Int → Int) : Prop := (0 ≤ n ∧ n ≤ 60) ∧ (∀ i, 0 ≤ i → i < n → (0 ≤ sc i ∧ sc i < 1000) ∧ 0 ≤ ca i ∧ ca i ≤ 198) ∧ t = sI ca n ∧ ∀ s, 0 ≤ s → s < 1000 → p s = oc sc ca n s
theorem SmQ.rel {n t : Int} {sc ca p : Int → Int} (h : SmQ n t sc ca p) {S : SM} {a : Nat} (h1 : S.1 a = true) (h2 : smSize S a = n) (h3 : smTotal S a = t) (h4 : smScore S a = sc) (h5 : smCases S a = ca) : SmR S a p 0 := by
  obtain ⟨q1, q2, q3, q4⟩ := h
  refine ⟨h1, ?_, ?_, ?_, ?_⟩
  · rw [h2]; exact q1
  · rw [h2, h4, h5]; exact q2
  · rw [h2, h3, h5]; exact q3
  · intro s s0 s1
    rw [h2, h4, h5, show 0 + s = s by omega]; exact q4 s s0 s1
theorem oc_none {sc ca : Int → Int} {s : Int} {z : Int} (h0 : 0 ≤ z) (h : ∀ j, 0 ≤ j → j < z → sc j ≠ s) : oc sc ca z s = 0 := by
  have e : sI (fun i => if sc i = s then ca i else 0) z = sI (fun _ => 0) z := sI_congr (fun j j0 j1 => if_neg (h j j0 j1))
  unfold oc
  rw [e, sI_zero h0]
theorem oc_one {sc ca : Int → Int} {j : Int} (j0 : 0 ≤ j) : ∀ z, j + 1 ≤ z → (∀ i k, 0 ≤ i → i < k → k < z → sc i ≠ sc k) → oc sc ca z (sc j) = ca j := by
  intro z hz
  have key : ∀ n : Nat, (∀ i k, 0 ≤ i → i < k → k < j + 1 + (n : Int) → sc i ≠ sc k) → oc sc ca (j + 1 + (n : Int)) (sc j) = ca j := by
    intro n
    induction n with
    | zero =>
      intro h
      have e0 : j + 1 + ((0 : Nat) : Int) = j + 1 := by omega
      have o := oc_none (sc := sc) (ca := ca) (s := sc j) (z := j) j0 (fun i i0 i1 => h i j i0 i1 (by omega))
      unfold oc at o ⊢
      rw [e0, sI_s _ j0, o]
      show 0 + (if sc j = sc j then ca j else 0) = ca j
      rw [if_pos rfl]; omega
    | succ n ih =>
      intro h
      have i1 := ih (fun i k i0 ik kz => h i k i0 ik (by omega))
      have e0 : j + 1 + ((n + 1 : Nat) : Int) = (j + 1 + (n : Int)) + 1 := by omega
      unfold oc at i1 ⊢
      rw [e0, sI_s _ (by omega), i1]
      have ne : sc (j + 1 + (n : Int)) ≠ sc j := fun e => h j (j + 1 + (n : Int)) j0 (by omega) (by omega) e.symm
      show ca j + (if sc (j + 1 + (n : Int)) = sc j then ca (j + 1 + (n : Int)) else 0) = ca j
      rw [if_neg ne]; omega
  intro h
  have e1 : j + 1 + ((z - (j + 1)).toNat : Int) = z := by omega
  have k := key (z - (j + 1)).toNat (by rw [e1]; exact h)
  rw [e1] at k
  exact k
theorem init9_b41 {ats tt : Int} {sc go ba qc : Int → Int} (h0 : 0 ≤ ats ∧ ats ≤ 60) : ∀ (f : Nat) (t y : Int) (ca : Int → Int), 0 ≤ y → y ≤ ats → (ats - y).toNat < f → t = sI (fun j => go j + ba j) y → (∀ j, 0 ≤ j → j < y → ca j = go j + ba j) → ∃ ca', m_X9_init_b41 N ats sc go ba f t y ats tt qc ca = some (ats, sI (fun j => go j + ba j) ats, qc, ca') ∧ ∀ j, 0 ≤ j → j < ats → ca' j = go j + ba j := by
  intro f
  induction f with
  | zero => intro t y ca _ _ h; omega
  | succ f ih =>
    intro t y ca y0 y1 hf ht hc
    rw [m_X9_init_b41]
    by_cases c : ats ≤ y
    · have e : y = ats := by omega
      subst e
      refine ⟨ca, ?_, hc⟩
      rw [← ht]
      refine gd_ok (by first | omega | (constructor <;> omega) | assumption) ?_
      refine gd_ok (by first | omega | (constructor <;> omega) | assumption) ?_
      refine ip_ok (c) ?_
      rfl
    · obtain ⟨ca', k1, k2⟩ := ih (t + (uP ca y (go y + ba y)) y) (y + 1) (uP ca y (go y + ba y)) (by omega) (by omega) (by omega) (by rw [sI_s _ y0, uP_s, ← ht]) (fun j j0 j1 => by
        by_cases e : j = y
        · rw [e, uP_s]
        · rw [uP_o _ _ e]; exact hc j j0 (by omega))
      refine ⟨ca', ?_, k2⟩
      rw [← k1]
      refine gd_ok (by first | omega | (constructor <;> omega) | assumption) ?_
      refine gd_ok (by first | omega | (constructor <;> omega) | assumption) ?_
      refine in_ok (c) ?_
      refine gd_ok (by first | omega | (constructor <;> omega) | assumption) ?_
      refine gd_ok (by first | omega | (constructor <;> omega) | assumption) ?_
      rfl
theorem init9_ok (hN : 40000 ≤ N) {ats : Int} {sc go ba op rd it sa : Int → Int} (h : Td ats sc go ba op rd it) (hs : ∀ s, 0 ≤ s → s < 1000 → sa s = rd s + rd (1000 + s)) : ∃ t sc' ca', m_X9_init N ats sc go ba = some (ats, t, sc', ca') ∧ SmQ ats t sc' ca' sa := by
  obtain ⟨a1, a2, a3, a4⟩ := id h
  obtain ⟨ca', k1, k2⟩ := init9_b41 (N := N) (tt := 0) (sc := sc) (go := go) (ba := ba) (qc := cpO sc 60 ats) a1 N 0 0 (fun _ => 0) (by decide) a1.1 (by omega) rfl (fun j j0 j1 => by omega)
  have hq : ∀ j, 0 ≤ j → j < ats → cpO sc 60 ats j = sc j := fun j j0 j1 => by
    unfold cpO
    by_cases e : ats = ((60 : Nat) : Int)
    · rw [if_pos e]
    · rw [if_neg e]
      unfold cP
      rw [if_pos ⟨j0, by omega⟩]
      congr 1
      omega
  refine ⟨sI (fun j => go j + ba j) ats, cpO sc 60 ats, ca', ?_, a1, fun i i0 i1 => ?_, ?_, fun s s0 s1 => ?_⟩
  · rw [m_X9_init]
    refine gd_ok (by first | omega | (constructor <;> omega) | assumption) ?_
    exact k1
  · obtain ⟨b1, -, -, -, -, b2, b3, -⟩ := a2 i i0 i1
    rw [hq i i0 i1, k2 i i0 i1]
    omega
  · exact (sI_congr (fun j j0 j1 => (k2 j j0 j1).symm))
  · rw [hs s s0 s1]
    rcases a4 s s0 s1 with ⟨-, w1, w2, -⟩ | ⟨-, j, j0, j1, j2⟩
    · by_cases e : ∃ j, 0 ≤ j ∧ j < ats ∧ sc j = s
      · obtain ⟨j, j0, j1, j2⟩ := e
        have o := oc_one (sc := cpO sc 60 ats) (ca := ca') j0 ats (by omega) (fun i k i0 ik kz => by
          rw [hq i i0 (by omega), hq k (by omega) kz]; exact a3 i k i0 ik kz)
        rw [hq j j0 j1, j2, k2 j j0 j1] at o
        obtain ⟨-, -, b1, b2, -⟩ := a2 j j0 j1
        rw [j2] at b1 b2
        rw [o, b1, b2]
      · rw [w1, w2, oc_none a1.1 (fun j j0 j1 e' => e ⟨j, j0, j1, by rw [← hq j j0 j1]; exact e'⟩)]
        rfl
    · have o := oc_one (sc := cpO sc 60 ats) (ca := ca') j0 ats (by omega) (fun i k i0 ik kz => by
        rw [hq i i0 (by omega), hq k (by omega) kz]; exact a3 i k i0 ik kz)
      rw [hq j j0 j1, j2, k2 j j0 j1] at o
      obtain ⟨-, -, b1, b2, -⟩ := a2 j j0 j1
      rw [j2] at b1 b2
      rw [o, b1, b2]
theorem SmQ.tot {n t : Int} {sc ca p : Int → Int} (h : SmQ n t sc ca p) : sI p 1000 = t ∧ ∀ s, 0 ≤ s → s < 1000 → 0 ≤ p s := by
  obtain ⟨q1, q2, q3, q4⟩ := h
  have s := oc_sum (W := fun _ => 1) (sc := sc) (ca := ca) (n := 1000) (by decide) q1.1 (fun i i0 i1 => (q2 i i0 i1).1)
  have e1 : sI p 1000 = sI (fun s => 1 * oc sc ca n s) 1000 := sI_congr (fun j j0 j1 => by rw [q4 j j0 j1, Int.one_mul])
  have e2 : sI (fun i => (fun _ => (1 : Int)) (sc i) * ca i) n = sI ca n := sI_congr (fun j _ _ => Int.one_mul _)
  refine ⟨by rw [e1, q3, ← e2]; exact s, fun x x0 x1 => ?_⟩
  rw [q4 x x0 x1]
  exact (oc_in (K := 198) q1.1 (fun i i0 i1 => (q2 i i0 i1).2) (by decide) x).1
theorem sample_b13_ok {tape rd it rr : Int → Int} {tz fk fp ra ln at_ bg tk va bd t : Int} (hc : ∀ sa : Int → Int, (∀ s, 0 ≤ s → s < 1000 → sa s = rd s + rd (1000 + s)) → m_X13_casesOf N sa 1000 0 = some t) : ∀ (f : Nat) (sa : Int → Int) (y : Int), 0 ≤ y → y ≤ 1000 → (1000 - y).toNat < f → (∀ s, 0 ≤ s → s < y → sa s = rd s + rd (1000 + s)) → ∃ sa', m_X13_sample_b13 N tape tz fk fp ra ln at_ bg tk va bd rd it rr f sa y = some (t, tz, fk, fp, ra, ln, at_, bg, tk, va, bd, sa', rd, it, rr) ∧ ∀ s, 0 ≤ s → s < 1000 → sa' s = rd s + rd (1000 + s) := by
  intro f
  induction f with
  | zero => intro sa y _ _ h; omega
  | succ f ih =>
    intro sa y y0 y1 hf hs
    rw [m_X13_sample_b13]
    by_cases c : 1000 ≤ y
    · have hs' : ∀ s, 0 ≤ s → s < 1000 → sa s = rd s + rd (1000 + s) := fun s s0 s1 => hs s s0 (by omega)
      refine ⟨sa, ?_, hs'⟩
      refine gd_ok (by first | omega | (constructor <;> omega) | assumption) ?_
      refine ip_ok (c) ?_
      rw [hc sa hs', so_bd]
    · obtain ⟨sa', k1, k2⟩ := ih (uP sa y (rd (0 + y) + rd (1000 + y))) (y + 1) (by omega) (by omega) (by omega) (fun s s0 s1 => by
        by_cases e : s = y
        · rw [e, uP_s, show 0 + y = y by omega]
        · rw [uP_o _ _ e]; exact hs s s0 (by omega))
      refine ⟨sa', ?_, k2⟩
      rw [← k1]
      refine gd_ok (by first | omega | (constructor <;> omega) | assumption) ?_
      refine in_ok (c) ?_
      refine gd_ok (by first | omega | (constructor <;> omega) | assumption) ?_
      refine gd_ok (by first | omega | (constructor <;> omega) | assumption) ?_
      refine gd_ok (by first | omega | (constructor <;> omega) | assumption) ?_
      rfl
set_option maxHeartbeats 4000000 in
theorem s_sample (hN : 40000 ≤ N) {z : Int} {c r : Int → Int} (h : TpR z c r) {ats ln le mo fk fp tl k s e v fk2 fp2 ra ln2 at_ bg tk va bd : Int} {sc go ba op co samp rd it rr : Int → Int} : ∃ ats' ln' le' mo' fk' fp' tl' k' s' e' v' sc' go' ba' op' co' ra' at' bg' tk' va' bd' rd' it' rr', (m_X12_sample_f N c z ats ln le mo fk fp tl k s e v sc go ba op co = some (-4, 0, ats', ln', le', mo', fk', fp', tl', k', s', e', v', sc', go', ba', op', co') ∧ m_X13_sample N r z fk2 fp2 ra ln2 at_ bg tk va bd samp rd it rr = some (-4, 0, fk', fp', ra', ln', at', bg', tk', va', bd', samp, rd', it', rr')) ∨ (∃ t sc2 ca2 sa', m_X12_sample_k N c z ats ln le mo fk fp tl k s e v sc go ba op co = some (t, 0, ats', ln', le', mo', fk', fp', tl', k', s', e', v', sc', go', ba', op', co', ats', t, sc2, ca2, ats') ∧ m_X13_sample N r z fk2 fp2 ra ln2 at_ bg tk va bd samp rd it rr = some (t, 0, fk', fp', ra', ln', at', bg', tk', va', bd', sa', rd', it', rr') ∧ SmQ ats' t sc2 ca2 sa') := by
  obtain ⟨ats', le', mo', tl', ln', fk', fp', k', s', e', v', sc', go', ba', op', co', okk, ra', at', bg', tk', va', bd', rd', it', rr', X, Y, hok, hFR, hC1, hC2, hln, hB⟩ := b_reads (N := N) hN h (x1 := 0) (x2 := 1) (Or.inr ⟨rfl, rfl⟩) (ats := ats) (ln := ln) (le := le) (mo := mo) (fk := fk) (fp := fp) (tl := tl) (k := k) (s := s) (e := e) (v := v) (fk' := fk2) (fp' := fp2) (ra := ra) (ln' := ln2) (at_ := at_) (bg := bg) (tk := tk) (va := va) (bd := bd) (sc := sc) (go := go) (ba := ba) (op := op) (co := co) (rd := rd) (it := it) (rr := rr)
  refine ⟨ats', ln', le', mo', fk', fp', tl', k', s', e', v', sc', go', ba', op', co', ra', at', bg', tk', va', bd', rd', it', rr', ?_⟩
  have hfk := hFR
  unfold FR at hfk
  rcases hok with ⟨f0, rfl⟩ | ⟨f0, rfl⟩
  · obtain ⟨-, hT, -⟩ := hB.v f0
    obtain ⟨t, sc2, ca2, i1, i2⟩ := init9_ok (N := N) hN (sa := fun s => rd' s + rd' (1000 + s)) hT (fun s _ _ => rfl)
    have hc : ∀ sa : Int → Int, (∀ s, 0 ≤ s → s < 1000 → sa s = rd' s + rd' (1000 + s)) → m_X13_casesOf N sa 1000 0 = some t := fun sa hs => by
      have q : SmQ ats' t sc2 ca2 sa := ⟨i2.1, i2.2.1, i2.2.2.1, fun s s0 s1 => by rw [hs s s0 s1]; exact i2.2.2.2 s s0 s1⟩
      obtain ⟨w1, w2⟩ := q.tot
      have e0 : sI (fun s => sa (0 + s)) 1000 = sI sa 1000 := sI_congr (fun j _ _ => by rw [Int.zero_add])
      rw [m_X13_casesOf, casesOf_b4_ok (x := 0) (p := sa) ⟨by decide, by decide⟩ (fun s s0 s1 => by rw [Int.zero_add]; exact w2 s s0 s1) N 0 0 (Int.le_refl 0) (by decide) (by omega) rfl, e0, w1]
    obtain ⟨sa', p1, p2⟩ := sample_b13_ok (N := N) (tape := r) (tz := 0) (fk := fk') (fp := fp') (ra := ra') (ln := ln') (at_ := at') (bg := bg') (tk := tk') (va := va') (bd := bd') (it := it') (rr := rr') hc N samp 0 (by decide) (by decide) (by omega) (fun s s0 s1 => by omega)
    refine Or.inr ⟨t, sc2, ca2, sa', ?_, ?_, ⟨i2.1, i2.2.1, i2.2.2.1, fun s s0 s1 => by rw [p2 s s0 s1]; exact i2.2.2.2 s s0 s1⟩⟩
    · rw [m_X12_sample_k, X, so_bd]
      dsimp only
      refine gd_ok ⟨by omega, by omega⟩ (ip_ok f0 ?_)
      rw [i1, so_bd]
    · rw [m_X13_sample, Y, so_bd]
      dsimp only
      refine gd_ok ⟨by decide, by decide⟩ (in_ok (by decide) ?_)
      exact p1
  · refine Or.inl ⟨?_, ?_⟩
    · rw [m_X12_sample_f, X, so_bd]
      dsimp only
      exact gd_ok ⟨by omega, by omega⟩ (in_ok f0 rfl)
    · rw [m_X13_sample, Y, so_bd]
      dsimp only
      exact gd_ok ⟨by decide, by decide⟩ (ip_ok rfl rfl)
end
