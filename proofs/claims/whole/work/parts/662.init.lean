/-! the two new objects -/
theorem cn_none {g b : Int → Int} (h : ∀ s, 0 ≤ s → s < 1000 → g s = 0 ∧ b s = 0) : cn g b = 0 := by
  have key : ∀ n : Nat, n ≤ 1000 → rwN g b n = 0 := by
    intro n
    induction n with
    | zero => intro _; rfl
    | succ n ih =>
      intro hn
      obtain ⟨e1, e2⟩ := h n (by omega) (by omega)
      rw [rwN_n (by omega), ih (by omega)]
  exact key 1000 (Nat.le_refl _)
theorem init9_0 : ∃ t sc ca, m_X9_init 40000 0 (fun _ => 0) (fun _ => 0) (fun _ => 0) = some (0, t, sc, ca) ∧ ∀ p : Int → Int, (∀ s, 0 ≤ s → s < 1000 → p s = 0) → SmQ 0 t sc ca p := by
  obtain ⟨ca, k1, k2⟩ := init9_b41 (N := 40000) (tt := 0) (sc := fun _ => 0) (go := fun _ => 0) (ba := fun _ => 0) (qc := cpO (fun _ => 0) 60 0) ⟨Int.le_refl 0, by decide⟩ 40000 0 0 (fun _ => 0) (Int.le_refl 0) (Int.le_refl 0) (by decide) rfl (fun j j0 j1 => by omega)
  refine ⟨sI (fun j => 0 + 0) 0, cpO (fun _ => 0) 60 0, ca, ?_, fun p hp => ⟨⟨Int.le_refl 0, by decide⟩, fun i i0 i1 => by omega, sI_congr (fun j j0 j1 => by omega), fun s s0 s1 => ?_⟩⟩
  · rw [m_X9_init]
    exact (gd_t ⟨by decide, by decide⟩).trans k1
  · rw [hp s s0 s1, oc_none (Int.le_refl 0) (fun j j0 j1 => by omega)]
set_option maxHeartbeats 4000000 in
set_option maxRecDepth 100000 in
theorem init12 : ∃ tt sc ca, m_X12_init 40000 = some (0, 0, 0, (fun _ => 0), 0, (fun _ => 0), 0, 0, 0, 0, 0, (-1), 0, 0, 0, 0, 0, (fun _ => 0), (fun _ => 0), (fun _ => 0), (fun _ => 0), (fun _ => 0), 1, 60, 1, 5, 1, (fun _ => 0), (fun _ => 0), (fun _ => 0), 0, (fun _ => 0), (fun _ => 0), (fun _ => 0), (fun _ => 0), (fun _ => 0), 0, (fun _ => 0), (fun _ => 0), (fun _ => 0), (fun _ => 0), (fun _ => 0), 0, (fun _ => 0), (fun _ => 0), (fun _ => 0), (fun _ => 0), (fun _ => 0), 0, 0, 0, 0, (fun _ => 0), (fun _ => 0), (fun _ => 0), (fun _ => 0), (fun _ => 0), 0, (fun _ => 0), (fun _ => 0), (fun _ => 0), (fun _ => 0), (fun _ => 0), 0, (fun _ => 0), (fun _ => 0), (fun _ => 0), 0, 0, (fun _ => 0), (fun _ => 0), (fun _ => 0), (fun _ => 0), (fun _ => 0), 0, (fun _ => 0), (fun _ => 0), (fun _ => 0), (fun _ => 0), (fun _ => 0), 0, tt, sc, ca, 0) ∧ ∀ p : Int → Int, (∀ s, 0 ≤ s → s < 1000 → p s = 0) → SmQ 0 tt sc ca p := by
  obtain ⟨t, sc, ca, h9, hq⟩ := init9_0
  refine ⟨t, sc, ca, ?_, hq⟩
  have h1 : m_X1_init 40000 1600 = some (0, fun _ => 0) := by
    rw [m_X1_init, gd_t (by decide), gd_t (by decide)]
  have h2 : m_X1_init 40000 1080 = some (0, fun _ => 0) := by
    rw [m_X1_init, gd_t (by decide), gd_t (by decide)]
  rw [m_X12_init, h1, so_bd, h2, so_bd, m_X7_init, so_bd, m_X6_init, so_bd, m_X8_init, so_bd, m_X4_init, so_bd, so_bd, m_X11_init, so_bd, so_bd, so_bd, m_X3_init, so_bd, m_X2_init, so_bd, m_X0_init, so_bd]
  dsimp only
  rw [h9]
  rfl
set_option maxHeartbeats 4000000 in
set_option maxRecDepth 100000 in
theorem init13 : ∃ st sa, m_X13_init 40000 = some (0, 0, 0, 0, (-1), 0, 0, 0, 0, 0, 0, 0, 0, 0, 0, 0, 0, 0, 0, 0, 0, st, (fun _ => 0), (fun _ => 0), sa, (fun _ => 0), (fun _ => 0), (fun _ => 0), (fun _ => 0), (fun _ => 0), (fun _ => 0), (fun _ => 0), (fun _ => 0), (fun _ => 0), (fun _ => 0), (fun _ => 0), (fun _ => 0), (fun _ => 0)) ∧ (∀ k, 0 ≤ k → k < 3201 → st k = 0) ∧ (st 3201 = 1 ∧ st 3202 = 60 ∧ st 3203 = 1 ∧ st 3204 = 5 ∧ st 3205 = 1) ∧ ∀ s, 0 ≤ s → s < 1000 → sa s = 0 := by
  obtain ⟨st, sa, h1, h2, h3, h4⟩ := begins_ok (N := 40000) (Nat.le_refl _) (km := 0) (mm := 0) (st := fun _ => 0) (sa := fun _ => 0)
  refine ⟨st, sa, ?_, h2, h3, h4⟩
  rw [m_X13_init, h1]
  rfl
theorem ar0 {st : Int → Int} (h2 : ∀ k, 0 ≤ k → k < 3201 → st k = 0) (h3 : st 3201 = 1 ∧ st 3202 = 60 ∧ st 3203 = 1 ∧ st 3204 = 5 ∧ st 3205 = 1) : ARel st 1 60 1 5 1 (fun _ => 0) (fun _ => 0) (fun _ => 0) 0 (fun _ => 0) (fun _ => 0) (fun _ => 0) (fun _ => 0) (fun _ => 0) 0 0 (fun _ => 0) (fun _ => 0) (fun _ => 0) 0 (fun _ => 0) (fun _ => 0) (fun _ => 0) (fun _ => 0) (fun _ => 0) := by
  obtain ⟨a1, a2, a3, a4, a5⟩ := h3
  have d0 : st 3200 = 0 := h2 3200 (by decide) (by decide)
  have c1 : cn (fun s => st s) (fun s => st (1000 + s)) = 0 := cn_none (fun s s0 s1 => ⟨h2 s s0 (by omega), h2 (1000 + s) (by omega) (by omega)⟩)
  have c2 : cn (fun s => st (2000 + s)) (fun _ => 0) = 0 := cn_none (fun s s0 s1 => ⟨h2 (2000 + s) (by omega) (by omega), rfl⟩)
  refine ⟨⟨⟨fun s s0 s1 => ?_, ?_⟩, ⟨fun s s0 s1 => ?_, ?_⟩, ?_, ⟨?_, ?_⟩, fun k k0 k1 => ?_, fun i i0 i1 => ?_⟩, ⟨fun s s0 s1 => ⟨h2 s s0 (by omega), h2 (1000 + s) (by omega) (by omega), h2 (2000 + s) (by omega) (by omega)⟩, a1, a2, a3, a4, a5⟩, ⟨d0, fun i i0 i1 => by omega⟩, ChR.zero, ⟨by decide, by decide⟩, fun i i0 i1 => by omega⟩
  · have e1 := h2 s s0 (by omega)
    have e2 := h2 (1000 + s) (by omega) (by omega)
    show (0 ≤ st s ∧ st s ≤ 99) ∧ 0 ≤ st (1000 + s) ∧ st (1000 + s) ≤ 99
    rw [e1, e2]; decide
  · rw [c1]; decide
  · rw [h2 (2000 + s) (by omega) (by omega)]; decide
  · rw [c2]; decide
  · rw [a1, a2, a3, a4, a5]; decide
  · rw [d0]; decide
  · rw [d0]; decide
  · rw [h2 k (by omega) (by omega)]; decide
  · rw [d0] at i1; omega
theorem inv0 {G : GG} {S : SM} {a b e : Nat} {ad sa bd : Nat → Nat} {st sp : Int → Int} (h2 : ∀ k, 0 ≤ k → k < 3201 → st k = 0) (h3 : st 3201 = 1 ∧ st 3202 = 60 ∧ st 3203 = 1 ∧ st 3204 = 5 ∧ st 3205 = 1) (hm : SmR S e sp 0) (he : SmR S e (fun _ => 0) 0) : Inv G S 0 a b (w12 G a ad sa 0 e e 0 0 0 (fun _ => 0) 0 (fun _ => 0) 0 0 0 0 0 (-1) 0 0 0 0 0 (fun _ => 0) (fun _ => 0) (fun _ => 0) (fun _ => 0) (fun _ => 0) 1 60 1 5 1 (fun _ => 0) (fun _ => 0) (fun _ => 0) 0 (fun _ => 0) (fun _ => 0) (fun _ => 0) (fun _ => 0) (fun _ => 0) 0 (fun _ => 0) (fun _ => 0) (fun _ => 0) (fun _ => 0) (fun _ => 0) 0 (fun _ => 0) (fun _ => 0) (fun _ => 0) (fun _ => 0) (fun _ => 0) 0 0 0 0 (fun _ => 0) (fun _ => 0) (fun _ => 0) (fun _ => 0) (fun _ => 0) 0 (fun _ => 0) (fun _ => 0) (fun _ => 0) (fun _ => 0) (fun _ => 0) 0 (fun _ => 0) (fun _ => 0) (fun _ => 0) 0 0 (fun _ => 0) (fun _ => 0) (fun _ => 0) (fun _ => 0) (fun _ => 0) 0 (fun _ => 0) (fun _ => 0) (fun _ => 0) (fun _ => 0) (fun _ => e) (fun _ => 0) ++ wSp G 0 (sa 0) (sa 1) (sa 2) (sa 3) (sa 4) 0 (fun _ => 0) (fun _ => 0) (fun _ => 0) (fun _ => 0)) (w13 G b bd 0 0 0 0 (-1) 0 0 0 0 0 0 0 0 0 0 0 0 0 0 0 0 st (fun _ => 0) (fun _ => 0) sp (fun _ => 0) (fun _ => 0) (fun _ => 0) (fun _ => 0) (fun _ => 0) (fun _ => 0) (fun _ => 0) (fun _ => 0) (fun _ => 0) (fun _ => 0) (fun _ => 0) (fun _ => 0) (fun _ => 0)) :=
  Inv.mk ⟨⟨by decide, by decide⟩, fun k k0 k1 => by omega⟩ ⟨⟨by decide, by decide⟩, fun k k0 k1 => by omega⟩ (ar0 h2 h3) (Int.le_refl 0) hm he ⟨⟨by decide, by decide⟩, fun i i0 i1 => by omega, fun i i0 i1 => by omega⟩ ⟨Or.inl rfl, ⟨rfl, rfl⟩, fun e => absurd e (by decide)⟩ ⟨rfl, rfl⟩ SpS.off
