/-! POOL: what was read becomes the state -/
theorem sI_term {f : Int → Int} {n j : Int} (hf : ∀ i, 0 ≤ i → i < n → 0 ≤ f i ∧ f i ≤ 1) (h0 : 0 ≤ j) (hj : j < n) : f j ≤ sI f n := by
  have a := sI_ab (K := 1) hf (Int.le_refl 0) j h0 (Int.le_of_lt hj)
  have b := sI_ab (K := 1) hf (a := j + 1) (by omega) n (by omega) (Int.le_refl _)
  have e : sI f 0 = 0 := rfl
  rw [sI_s f h0] at b
  omega
theorem cn_cover {G B sc : Int → Int} {ats : Int} (h0 : 0 ≤ ats) (hs : ∀ j, 0 ≤ j → j < ats → 0 ≤ sc j ∧ sc j < 1000) (h : ∀ x, 0 ≤ x → x < 1000 → 0 < G x + B x → Bx (∃ j, 0 ≤ j ∧ j < ats ∧ sc j = x)) : cn G B ≤ ats := by
  have hc : ∀ s, ∀ i, 0 ≤ i → i < ats → 0 ≤ (if sc i = s then (1 : Int) else 0) ∧ (if sc i = s then (1 : Int) else 0) ≤ 1 := fun s i _ _ => by
    by_cases c : sc i = s
    · rw [if_pos c]; decide
    · rw [if_neg c]; decide
  have key : ∀ n : Nat, n ≤ 1000 → rwN G B n ≤ sI (fun s => oc sc (fun _ => 1) ats s) (n : Int) := by
    intro n
    induction n with
    | zero => intro _; exact Int.le_refl _
    | succ n ih =>
      intro hn
      have i1 := ih (by omega)
      rw [Int.natCast_succ, sI_s _ (by omega)]
      have o0 : 0 ≤ oc sc (fun _ => 1) ats (n : Int) := (oc_in (sc := sc) (ca := fun _ => 1) (z := ats) (K := 1) h0 (fun _ _ _ => ⟨by decide, by decide⟩) (by decide) (n : Int)).1
      by_cases c : 0 < G (n : Int) + B (n : Int)
      · rw [rwN_p c]
        obtain ⟨j, j0, j1, j2⟩ := (h (n : Int) (by omega) (by omega) c).v
        have t := sI_term (f := fun i => if sc i = (n : Int) then (1 : Int) else 0) (hc (n : Int)) j0 j1
        have t' : (if sc j = (n : Int) then (1 : Int) else 0) ≤ oc sc (fun _ => 1) ats (n : Int) := t
        rw [if_pos j2] at t'
        omega
      · rw [rwN_n c]
        omega
  have k := key 1000 (Nat.le_refl _)
  have s := oc_sum (W := fun _ => 1) (sc := sc) (ca := fun _ => 1) (n := 1000) (by decide) h0 hs
  have e1 : sI (fun s => 1 * oc sc (fun _ => 1) ats s) 1000 = sI (fun s => oc sc (fun _ => 1) ats s) 1000 := sI_congr (fun j _ _ => Int.one_mul _)
  have e2 : sI (fun _ => (1 : Int) * 1) ats = ats := by
    refine up_ind (P := fun n => sI (fun _ => (1 : Int) * 1) n = n) rfl (fun i hi ih => ?_) ats h0
    rw [sI_s _ hi, ih]
    rfl
  have e3 : sI (fun i => (fun _ => (1 : Int)) (sc i) * (fun _ => (1 : Int)) i) ats = ats := e2
  have k' : cn G B ≤ sI (fun s => oc sc (fun _ => 1) ats s) 1000 := k
  rw [e1] at s
  omega
section
variable {N : Nat}
theorem begins_b70_ok {km mm : Int} {st : Int → Int} : ∀ (f : Nat) (sa : Int → Int) (y : Int), 0 ≤ y → y ≤ 1000 → (∀ s, 0 ≤ s → s < y → sa s = 0) → (1000 - y).toNat < f → ∃ sa', m_X13_begins_b70 N km mm st f sa y = some (0, 0, st, sa') ∧ ∀ s, 0 ≤ s → s < 1000 → sa' s = 0 := by
  intro f
  induction f with
  | zero => intro sa y _ _ _ h; omega
  | succ f ih =>
    intro sa y h0 h1 h2 hf
    rw [m_X13_begins_b70]
    by_cases c : 1000 ≤ y
    · refine ⟨sa, ?_, fun s s0 s1 => h2 s s0 (by omega)⟩
      refine gd_ok (by first | omega | (constructor <;> omega) | assumption) ?_
      refine ip_ok (c) ?_
      rfl
    · obtain ⟨sa', k1, k2⟩ := ih (uP sa y 0) (y + 1) (by omega) (by omega) (fun s s0 s1 => by
        by_cases e : s = y
        · rw [e, uP_s]
        · rw [uP_o _ _ e]; exact h2 s s0 (by omega)) (by omega)
      refine ⟨sa', ?_, k2⟩
      rw [← k1]
      refine gd_ok (by first | omega | (constructor <;> omega) | assumption) ?_
      refine in_ok (c) ?_
      refine gd_ok (by first | omega | (constructor <;> omega) | assumption) ?_
      rfl
theorem begins_b2_ok (hN : 40000 ≤ N) {km mm : Int} {sa : Int → Int} : ∀ (f : Nat) (st : Int → Int) (y : Int), 0 ≤ y → y ≤ 3206 → (∀ s, 0 ≤ s → s < y → st s = 0) → (3206 - y).toNat < f → ∃ st' sa', m_X13_begins_b2 N km mm sa f st y = some (0, 0, st', sa') ∧ (∀ k, 0 ≤ k → k < 3201 → st' k = 0) ∧ (st' 3201 = 1 ∧ st' 3202 = 60 ∧ st' 3203 = 1 ∧ st' 3204 = 5 ∧ st' 3205 = 1) ∧ ∀ s, 0 ≤ s → s < 1000 → sa' s = 0 := by
  intro f
  induction f with
  | zero => intro st y _ _ _ h; omega
  | succ f ih =>
    intro st y h0 h1 h2 hf
    rw [m_X13_begins_b2]
    by_cases c : 3206 ≤ y
    · obtain ⟨sa', k1, k2⟩ := begins_b70_ok (N := N) (km := km) (mm := mm) (st := uP (uP (uP (uP (uP st 3201 1) 3202 60) 3203 1) 3204 5) 3205 1) N sa 0 (by decide) (by decide) (fun s s0 s1 => by omega) (by omega)
      refine ⟨uP (uP (uP (uP (uP st 3201 1) 3202 60) 3203 1) 3204 5) 3205 1, sa', ?_, fun k k0 k3 => ?_, ⟨rfl, rfl, rfl, rfl, rfl⟩, k2⟩
      · rw [← k1]
        refine gd_ok (by first | omega | (constructor <;> omega) | assumption) ?_
        refine ip_ok (c) ?_
        rfl
      · rw [uP_o _ _ (by omega), uP_o _ _ (by omega), uP_o _ _ (by omega), uP_o _ _ (by omega), uP_o _ _ (by omega)]
        exact h2 k k0 (by omega)
    · obtain ⟨st', sa', k1, k2⟩ := ih (uP st y 0) (y + 1) (by omega) (by omega) (fun s s0 s1 => by
        by_cases e : s = y
        · rw [e, uP_s]
        · rw [uP_o _ _ e]; exact h2 s s0 (by omega)) (by omega)
      refine ⟨st', sa', ?_, k2⟩
      rw [← k1]
      refine gd_ok (by first | omega | (constructor <;> omega) | assumption) ?_
      refine in_ok (c) ?_
      refine gd_ok (by first | omega | (constructor <;> omega) | assumption) ?_
      rfl
theorem begins_ok (hN : 40000 ≤ N) {km mm : Int} {st sa : Int → Int} : ∃ st' sa', m_X13_begins N km mm st sa = some (0, 0, st', sa') ∧ (∀ k, 0 ≤ k → k < 3201 → st' k = 0) ∧ (st' 3201 = 1 ∧ st' 3202 = 60 ∧ st' 3203 = 1 ∧ st' 3204 = 5 ∧ st' 3205 = 1) ∧ ∀ s, 0 ≤ s → s < 1000 → sa' s = 0 := by
  rw [m_X13_begins]
  exact begins_b2_ok hN N st 0 (by decide) (by decide) (fun s s0 s1 => by omega) (by omega)
variable {tp km mm tz fk fp ra ln at_ bg tk va bd : Int} {tape sa rd it rr : Int → Int}
theorem pool_b44_ok (hrr : ∀ i, 0 ≤ i → i < 5 → rI (rr i)) : ∀ (f : Nat) (st : Int → Int) (y : Int), 0 ≤ y → y ≤ 5 → (5 - y).toNat < f → ∃ st', m_X13_pool_b44 N tape km mm tz fk fp ra ln at_ bg tk va bd sa rd it rr f st y = some (ln, km, mm, tz, fk, fp, ra, ln, at_, bg, tk, va, bd, st', sa, rd, it, rr) ∧ (∀ k, k < 3201 + y → st' k = st k) ∧ ∀ i, y ≤ i → i < 5 → st' (3201 + i) = if rr i = -1 then st (3201 + i) else rr i := by
  intro f
  induction f with
  | zero => intro st y _ _ h; omega
  | succ f ih =>
    intro st y h0 h1 hf
    rw [m_X13_pool_b44]
    by_cases c : 5 ≤ y
    · refine ⟨st, ?_, fun k _ => rfl, fun i i0 i1 => by omega⟩
      refine gd_ok (by first | omega | (constructor <;> omega) | assumption) ?_
      refine ip_ok (c) ?_
      rfl
    · have r1 := hrr y h0 (by omega)
      by_cases d : rr y = -1
      · obtain ⟨st', k1, k2, k3⟩ := ih (uP st (3201 + y) (st (3201 + y))) (y + 1) (by omega) (by omega) (by omega)
        refine ⟨st', ?_, fun k hk => ?_, fun i i0 i1 => ?_⟩
        · rw [← k1]
          refine gd_ok (by first | omega | (constructor <;> omega) | assumption) ?_
          refine in_ok (c) ?_
          refine gd_ok (by first | omega | (constructor <;> omega) | assumption) ?_
          refine gd_ok (by first | omega | (constructor <;> omega) | assumption) ?_
          refine ip_ok (d) ?_
          refine gd_ok (by first | omega | (constructor <;> omega) | assumption) ?_
          rw [m_X13_pool_b87]
          refine gd_ok (by first | omega | (constructor <;> omega) | assumption) ?_
          rfl
        · rw [k2 k (by omega), uP_o _ _ (by omega)]
        · by_cases e : i = y
          · subst e; rw [if_pos d, k2 _ (by omega), uP_s]
          · rw [k3 i (by omega) i1, uP_o _ _ (by omega)]
      · obtain ⟨st', k1, k2, k3⟩ := ih (uP st (3201 + y) (rr y)) (y + 1) (by omega) (by omega) (by omega)
        refine ⟨st', ?_, fun k hk => ?_, fun i i0 i1 => ?_⟩
        · rw [← k1]
          refine gd_ok (by first | omega | (constructor <;> omega) | assumption) ?_
          refine in_ok (c) ?_
          refine gd_ok (by first | omega | (constructor <;> omega) | assumption) ?_
          refine gd_ok (by first | omega | (constructor <;> omega) | assumption) ?_
          refine in_ok (d) ?_
          rw [m_X13_pool_b87]
          refine gd_ok (by first | omega | (constructor <;> omega) | assumption) ?_
          rfl
        · rw [k2 k (by omega), uP_o _ _ (by omega)]
        · by_cases e : i = y
          · subst e; rw [if_neg d, k2 _ (by omega), uP_s]
          · rw [k3 i (by omega) i1, uP_o _ _ (by omega)]
theorem pool_b17_ok (hN : 40000 ≤ N) (hrr : ∀ i, 0 ≤ i → i < 5 → rI (rr i)) : ∀ (f : Nat) (st : Int → Int) (y : Int), 0 ≤ y → y ≤ 3000 → (∀ k, 0 ≤ k → k < y → st k = rd k) → (3000 - y).toNat < f → ∃ st', m_X13_pool_b17 N tape km mm tz fk fp ra ln at_ bg tk va bd sa rd it rr f st y = some (ln, km, mm, tz, fk, fp, ra, ln, at_, bg, tk, va, bd, st', sa, rd, it, rr) ∧ (∀ k, 0 ≤ k → k < 3000 → st' k = rd k) ∧ (∀ k, 3000 ≤ k → k < 3201 → st' k = st k) ∧ ∀ i, 0 ≤ i → i < 5 → st' (3201 + i) = if rr i = -1 then st (3201 + i) else rr i := by
  intro f
  induction f with
  | zero => intro st y _ _ _ h; omega
  | succ f ih =>
    intro st y h0 h1 h2 hf
    rw [m_X13_pool_b17]
    by_cases c : 3000 ≤ y
    · obtain ⟨st', k1, k2, k3⟩ := pool_b44_ok (N := N) (km := km) (mm := mm) (tz := tz) (fk := fk) (fp := fp) (ra := ra) (ln := ln) (at_ := at_) (bg := bg) (tk := tk) (va := va) (bd := bd) (tape := tape) (sa := sa) (rd := rd) (it := it) hrr N st 0 (by decide) (by decide) (by omega)
      refine ⟨st', ?_, fun k k0 k4 => by rw [k2 k (by omega)]; exact h2 k k0 (by omega), fun k k0 k4 => k2 k (by omega), fun i i0 i1 => k3 i i0 i1⟩
      rw [← k1]
      refine gd_ok (by first | omega | (constructor <;> omega) | assumption) ?_
      refine ip_ok (c) ?_
      rfl
    · obtain ⟨st', k1, k2, k3, k4⟩ := ih (uP st y (rd y)) (y + 1) (by omega) (by omega) (fun k k0 k1 => by
        by_cases e : k = y
        · rw [e, uP_s]
        · rw [uP_o _ _ e]; exact h2 k k0 (by omega)) (by omega)
      refine ⟨st', ?_, k2, fun k a1 a2 => by rw [k3 k a1 a2, uP_o _ _ (by omega)], fun i i0 i1 => by rw [k4 i i0 i1, uP_o _ _ (by omega)]⟩
      rw [← k1]
      refine gd_ok (by first | omega | (constructor <;> omega) | assumption) ?_
      refine in_ok (c) ?_
      refine gd_ok (by first | omega | (constructor <;> omega) | assumption) ?_
      refine gd_ok (by first | omega | (constructor <;> omega) | assumption) ?_
      rfl
end
