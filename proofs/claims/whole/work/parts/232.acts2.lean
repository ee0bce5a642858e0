/-! acts: what a state is -/
def Fit (g b : Int → Int) : Prop := (∀ s, 0 ≤ s → s < 1000 → (0 ≤ g s ∧ g s ≤ 99) ∧ 0 ≤ b s ∧ b s ≤ 99) ∧ cn g b ≤ 60
section
variable {N : Nat} {g b : Int → Int}
theorem fits_ok (hN : 40000 ≤ N) {st : Int → Int} (hst : StA st g b) (hb : ∀ s, 0 ≤ s → s < 1000 → (-1000 ≤ g s ∧ g s ≤ 1000) ∧ -1000 ≤ b s ∧ b s ≤ 1000) : ∃ v, m_X6_fits N g b = some v ∧ m_X13_canBe N st = some v ∧ ((v = 0 ∧ ¬ Fit g b) ∨ (v = 1 ∧ Fit g b)) := by
  have lp : ∀ (f k : Nat) (y1 y2 : Int), y2 = (k : Int) → k ≤ 1000 → y1 = rwN g b k → (∀ s, 0 ≤ s → s < (k : Int) → (0 ≤ g s ∧ g s ≤ 99) ∧ 0 ≤ b s ∧ b s ≤ 99) → 1000 - k < f → ∃ v, m_X6_fits_b4 N g b f y1 y2 = some v ∧ m_X13_canBe_b4 N st f y1 y2 = some v ∧ ((v = 0 ∧ ¬ Fit g b) ∨ (v = 1 ∧ Fit g b)) := by
    intro f
    induction f with
    | zero => intro k y1 y2 _ _ _ _ h; omega
    | succ f ih =>
      intro k y1 y2 e2 hk e1 hs hf
      have r0 := rwN_0 (g := g) (b := b) k
      rw [m_X6_fits_b4, m_X13_canBe_b4]
      by_cases c : 1000 ≤ y2
      · have ek : k = 1000 := by omega
        subst ek
        have ec : cn g b = y1 := e1.symm
        by_cases d : 60 < y1
        · refine ⟨0, ?_, ?_, Or.inl ⟨rfl, fun hF => by have := hF.2; omega⟩⟩
          · repeat (first | (with_reducible refine gd_ok ?_ ?_; focus (first | omega | assumption | ((repeat' refine And.intro ?_ ?_) <;> first | omega | assumption) | fail)) | (with_reducible refine ip_ok ?_ ?_; focus (first | omega | assumption | ((repeat' refine And.intro ?_ ?_) <;> first | omega | assumption) | fail)) | (with_reducible refine in_ok ?_ ?_; focus (first | omega | assumption | ((repeat' refine And.intro ?_ ?_) <;> first | omega | assumption) | fail)) | (rw [so_bd]; try dsimp only))
            all_goals rfl
          · repeat (first | (with_reducible refine gd_ok ?_ ?_; focus (first | omega | assumption | ((repeat' refine And.intro ?_ ?_) <;> first | omega | assumption) | fail)) | (with_reducible refine ip_ok ?_ ?_; focus (first | omega | assumption | ((repeat' refine And.intro ?_ ?_) <;> first | omega | assumption) | fail)) | (with_reducible refine in_ok ?_ ?_; focus (first | omega | assumption | ((repeat' refine And.intro ?_ ?_) <;> first | omega | assumption) | fail)) | (rw [so_bd]; try dsimp only))
            all_goals rfl
        · refine ⟨1, ?_, ?_, Or.inr ⟨rfl, fun s s0 s1 => hs s s0 (by omega), by omega⟩⟩
          · repeat (first | (with_reducible refine gd_ok ?_ ?_; focus (first | omega | assumption | ((repeat' refine And.intro ?_ ?_) <;> first | omega | assumption) | fail)) | (with_reducible refine ip_ok ?_ ?_; focus (first | omega | assumption | ((repeat' refine And.intro ?_ ?_) <;> first | omega | assumption) | fail)) | (with_reducible refine in_ok ?_ ?_; focus (first | omega | assumption | ((repeat' refine And.intro ?_ ?_) <;> first | omega | assumption) | fail)) | (rw [so_bd]; try dsimp only))
            all_goals rfl
          · repeat (first | (with_reducible refine gd_ok ?_ ?_; focus (first | omega | assumption | ((repeat' refine And.intro ?_ ?_) <;> first | omega | assumption) | fail)) | (with_reducible refine ip_ok ?_ ?_; focus (first | omega | assumption | ((repeat' refine And.intro ?_ ?_) <;> first | omega | assumption) | fail)) | (with_reducible refine in_ok ?_ ?_; focus (first | omega | assumption | ((repeat' refine And.intro ?_ ?_) <;> first | omega | assumption) | fail)) | (rw [so_bd]; try dsimp only))
            all_goals rfl
      · have hy := hb y2 (by omega) (by omega)
        obtain ⟨t1, t2⟩ := hst y2 (by omega) (by omega)
        have kc : ((k + 1 : Nat) : Int) = (k : Int) + 1 := by omega
        rw [Int.zero_add, t1, t2]
        by_cases c1 : 0 ≤ g y2 ∧ g y2 ≤ 99
        · have i1 := in1 (N := N) (v := g y2) (lo := 0) (hi := 99) ⟨by omega, by omega⟩ ⟨by decide, by decide⟩ ⟨by decide, by decide⟩ c1
          by_cases c2 : 0 ≤ b y2 ∧ b y2 ≤ 99
          · have i2 := in1 (N := N) (v := b y2) (lo := 0) (hi := 99) ⟨by omega, by omega⟩ ⟨by decide, by decide⟩ ⟨by decide, by decide⟩ c2
            have hs' : ∀ s, 0 ≤ s → s < ((k + 1 : Nat) : Int) → (0 ≤ g s ∧ g s ≤ 99) ∧ 0 ≤ b s ∧ b s ≤ 99 := by
              intro s s0 s1
              by_cases e : s = y2
              · rw [e]; exact ⟨c1, c2⟩
              · exact hs s s0 (by omega)
            by_cases p : 0 < g k + b k
            · have p' : 0 < g y2 + b y2 := by rw [e2]; exact p
              obtain ⟨v, q1, q2, q3⟩ := ih (k + 1) (y1 + 1) (y2 + 1) (by omega) (by omega) (by rw [rwN_p p, e1]) hs' (by omega)
              refine ⟨v, ?_, ?_, q3⟩
              · repeat (first | (with_reducible refine gd_ok ?_ ?_; focus (first | omega | assumption | ((repeat' refine And.intro ?_ ?_) <;> first | omega | assumption) | fail)) | (with_reducible refine ip_ok ?_ ?_; focus (first | omega | assumption | ((repeat' refine And.intro ?_ ?_) <;> first | omega | assumption) | fail)) | (with_reducible refine in_ok ?_ ?_; focus (first | omega | assumption | ((repeat' refine And.intro ?_ ?_) <;> first | omega | assumption) | fail)) | (rw [so_bd]; try dsimp only))
                exact q1
              · repeat (first | (with_reducible refine gd_ok ?_ ?_; focus (first | omega | assumption | ((repeat' refine And.intro ?_ ?_) <;> first | omega | assumption) | fail)) | (with_reducible refine ip_ok ?_ ?_; focus (first | omega | assumption | ((repeat' refine And.intro ?_ ?_) <;> first | omega | assumption) | fail)) | (with_reducible refine in_ok ?_ ?_; focus (first | omega | assumption | ((repeat' refine And.intro ?_ ?_) <;> first | omega | assumption) | fail)) | (rw [i1, so_bd]; try dsimp only) | (rw [i2, so_bd]; try dsimp only) | (rw [so_bd]; try dsimp only))
                exact q2
            · have p' : ¬ 0 < g y2 + b y2 := by rw [e2]; exact p
              obtain ⟨v, q1, q2, q3⟩ := ih (k + 1) y1 (y2 + 1) (by omega) (by omega) (by rw [rwN_n p, e1]) hs' (by omega)
              refine ⟨v, ?_, ?_, q3⟩
              · repeat (first | (with_reducible refine gd_ok ?_ ?_; focus (first | omega | assumption | ((repeat' refine And.intro ?_ ?_) <;> first | omega | assumption) | fail)) | (with_reducible refine ip_ok ?_ ?_; focus (first | omega | assumption | ((repeat' refine And.intro ?_ ?_) <;> first | omega | assumption) | fail)) | (with_reducible refine in_ok ?_ ?_; focus (first | omega | assumption | ((repeat' refine And.intro ?_ ?_) <;> first | omega | assumption) | fail)) | (rw [so_bd]; try dsimp only))
                exact q1
              · repeat (first | (with_reducible refine gd_ok ?_ ?_; focus (first | omega | assumption | ((repeat' refine And.intro ?_ ?_) <;> first | omega | assumption) | fail)) | (with_reducible refine ip_ok ?_ ?_; focus (first | omega | assumption | ((repeat' refine And.intro ?_ ?_) <;> first | omega | assumption) | fail)) | (with_reducible refine in_ok ?_ ?_; focus (first | omega | assumption | ((repeat' refine And.intro ?_ ?_) <;> first | omega | assumption) | fail)) | (rw [i1, so_bd]; try dsimp only) | (rw [i2, so_bd]; try dsimp only) | (rw [so_bd]; try dsimp only))
                rw [m_X13_canBe_b81, Int.add_zero]
                exact q2
          · have i2 := in0 (N := N) (v := b y2) (lo := 0) (hi := 99) ⟨by omega, by omega⟩ ⟨by decide, by decide⟩ ⟨by decide, by decide⟩ c2
            refine ⟨0, ?_, ?_, Or.inl ⟨rfl, fun hF => c2 (hF.1 y2 (by omega) (by omega)).2⟩⟩
            · by_cases d : b y2 < 0
              · repeat (first | (with_reducible refine gd_ok ?_ ?_; focus (first | omega | assumption | ((repeat' refine And.intro ?_ ?_) <;> first | omega | assumption) | fail)) | (with_reducible refine ip_ok ?_ ?_; focus (first | omega | assumption | ((repeat' refine And.intro ?_ ?_) <;> first | omega | assumption) | fail)) | (with_reducible refine in_ok ?_ ?_; focus (first | omega | assumption | ((repeat' refine And.intro ?_ ?_) <;> first | omega | assumption) | fail)) | (rw [so_bd]; try dsimp only))
                all_goals rfl
              · repeat (first | (with_reducible refine gd_ok ?_ ?_; focus (first | omega | assumption | ((repeat' refine And.intro ?_ ?_) <;> first | omega | assumption) | fail)) | (with_reducible refine ip_ok ?_ ?_; focus (first | omega | assumption | ((repeat' refine And.intro ?_ ?_) <;> first | omega | assumption) | fail)) | (with_reducible refine in_ok ?_ ?_; focus (first | omega | assumption | ((repeat' refine And.intro ?_ ?_) <;> first | omega | assumption) | fail)) | (rw [so_bd]; try dsimp only))
                all_goals rfl
            · repeat (first | (with_reducible refine gd_ok ?_ ?_; focus (first | omega | assumption | ((repeat' refine And.intro ?_ ?_) <;> first | omega | assumption) | fail)) | (with_reducible refine ip_ok ?_ ?_; focus (first | omega | assumption | ((repeat' refine And.intro ?_ ?_) <;> first | omega | assumption) | fail)) | (with_reducible refine in_ok ?_ ?_; focus (first | omega | assumption | ((repeat' refine And.intro ?_ ?_) <;> first | omega | assumption) | fail)) | (rw [i1, so_bd]; try dsimp only) | (rw [i2, so_bd]; try dsimp only) | (rw [so_bd]; try dsimp only))
              all_goals rfl
        · have i1 := in0 (N := N) (v := g y2) (lo := 0) (hi := 99) ⟨by omega, by omega⟩ ⟨by decide, by decide⟩ ⟨by decide, by decide⟩ c1
          refine ⟨0, ?_, ?_, Or.inl ⟨rfl, fun hF => c1 (hF.1 y2 (by omega) (by omega)).1⟩⟩
          · by_cases d : g y2 < 0
            · repeat (first | (with_reducible refine gd_ok ?_ ?_; focus (first | omega | assumption | ((repeat' refine And.intro ?_ ?_) <;> first | omega | assumption) | fail)) | (with_reducible refine ip_ok ?_ ?_; focus (first | omega | assumption | ((repeat' refine And.intro ?_ ?_) <;> first | omega | assumption) | fail)) | (with_reducible refine in_ok ?_ ?_; focus (first | omega | assumption | ((repeat' refine And.intro ?_ ?_) <;> first | omega | assumption) | fail)) | (rw [so_bd]; try dsimp only))
              all_goals rfl
            · repeat (first | (with_reducible refine gd_ok ?_ ?_; focus (first | omega | assumption | ((repeat' refine And.intro ?_ ?_) <;> first | omega | assumption) | fail)) | (with_reducible refine ip_ok ?_ ?_; focus (first | omega | assumption | ((repeat' refine And.intro ?_ ?_) <;> first | omega | assumption) | fail)) | (with_reducible refine in_ok ?_ ?_; focus (first | omega | assumption | ((repeat' refine And.intro ?_ ?_) <;> first | omega | assumption) | fail)) | (rw [so_bd]; try dsimp only))
              all_goals rfl
          · repeat (first | (with_reducible refine gd_ok ?_ ?_; focus (first | omega | assumption | ((repeat' refine And.intro ?_ ?_) <;> first | omega | assumption) | fail)) | (with_reducible refine ip_ok ?_ ?_; focus (first | omega | assumption | ((repeat' refine And.intro ?_ ?_) <;> first | omega | assumption) | fail)) | (with_reducible refine in_ok ?_ ?_; focus (first | omega | assumption | ((repeat' refine And.intro ?_ ?_) <;> first | omega | assumption) | fail)) | (rw [i1, so_bd]; try dsimp only) | (rw [so_bd]; try dsimp only))
            all_goals rfl
  exact lp N 0 0 0 rfl (by decide) rfl (fun s s0 s1 => by omega) (by omega)
theorem Fit.ok (h : Fit g b) : okP g b := by
  refine ⟨fun s s0 s1 => by have := h.1 s s0 s1; omega, h.2, ?_⟩
  have n0 := cn_0 g b
  have hn := h.2
  have a1 := sI_ab (K := 99) (f := cg g b) (n := cn g b) (fun j j0 j1 => by
    have c := cs_in (g := g) (b := b) j0 j1
    exact (h.1 _ c.1 c.2.1).1) (Int.le_refl 0) _ n0 (Int.le_refl _)
  have a2 := sI_ab (K := 99) (f := cb g b) (n := cn g b) (fun j j0 j1 => by
    have c := cs_in (g := g) (b := b) j0 j1
    exact (h.1 _ c.1 c.2.1).2) (Int.le_refl 0) _ n0 (Int.le_refl _)
  have z1 : sI (cg g b) 0 = 0 := rfl
  have z2 : sI (cb g b) 0 = 0 := rfl
  rw [z1] at a1
  rw [z2] at a2
  unfold cG cB
  omega
theorem Fit.n99 (h : Fit g b) : cG g b (cn g b) ≤ 9999 ∧ cB g b (cn g b) ≤ 9999 := by
  have n0 := cn_0 g b
  have hn := h.2
  have a1 := sI_ab (K := 99) (f := cg g b) (n := cn g b) (fun j j0 j1 => by
    have c := cs_in (g := g) (b := b) j0 j1
    exact (h.1 _ c.1 c.2.1).1) (Int.le_refl 0) _ n0 (Int.le_refl _)
  have a2 := sI_ab (K := 99) (f := cb g b) (n := cn g b) (fun j j0 j1 => by
    have c := cs_in (g := g) (b := b) j0 j1
    exact (h.1 _ c.1 c.2.1).2) (Int.le_refl 0) _ n0 (Int.le_refl _)
  have z1 : sI (cg g b) 0 = 0 := rfl
  have z2 : sI (cb g b) 0 = 0 := rfl
  rw [z1] at a1
  rw [z2] at a2
  unfold cG cB
  omega
/-- only the thousand scores count -/
theorem rwN_congr {g' b' : Int → Int} (n : Nat) (h : ∀ s, 0 ≤ s → s < (n : Int) → g' s = g s ∧ b' s = b s) : rwN g' b' n = rwN g b n := by
  induction n with
  | zero => rfl
  | succ n ih =>
    have ih := ih (fun s s0 s1 => h s s0 (by omega))
    obtain ⟨e1, e2⟩ := h n (by omega) (by omega)
    by_cases p : 0 < g n + b n
    · rw [rwN_p p, rwN_p (g := g') (b := b') (by rw [e1, e2]; exact p), ih]
    · rw [rwN_n p, rwN_n (g := g') (b := b') (by rw [e1, e2]; exact p), ih]
end
/-- the reference's state -/
def StV (st : Int → Int) : Prop := Fit (fun s => st s) (fun s => st (1000 + s)) ∧ ((∀ s, 0 ≤ s → s < 1000 → 0 ≤ st (2000 + s) ∧ st (2000 + s) ≤ 99) ∧ cn (fun s => st (2000 + s)) (fun _ => 0) ≤ 60) ∧ ((0 ≤ st 3201 ∧ st 3201 ≤ 9999) ∧ (1 ≤ st 3202 ∧ st 3202 ≤ 60) ∧ (0 ≤ st 3203 ∧ st 3203 ≤ 999) ∧ (0 ≤ st 3204 ∧ st 3204 ≤ 999) ∧ 0 ≤ st 3205 ∧ st 3205 ≤ 999) ∧ (0 ≤ st 3200 ∧ st 3200 ≤ 40) ∧ (∀ k, 3000 ≤ k → k < 3200 → -1 ≤ st k ∧ st k ≤ 999) ∧ ∀ i, 0 ≤ i → i < st 3200 → (0 ≤ st (3000 + 5 * i) ∧ st (3000 + 5 * i) < 1000) ∧ (st (3000 + 5 * i + 3) = -1 ∨ st (3000 + 5 * i + 3) = 0 ∨ st (3000 + 5 * i + 3) = 1) ∧ (st (3000 + 5 * i + 4) = 0 ∨ st (3000 + 5 * i + 4) = 1)
theorem StV.b {st : Int → Int} (h : StV st) {k : Int} (k0 : 0 ≤ k) (k1 : k < 3206) : -1 ≤ st k ∧ st k ≤ 9999 := by
  obtain ⟨h1, h2, h3, h4, h5, -⟩ := h
  rcases (by omega : k < 1000 ∨ (1000 ≤ k ∧ k < 2000) ∨ (2000 ≤ k ∧ k < 3000) ∨ (3000 ≤ k ∧ k < 3200) ∨ k = 3200 ∨ k = 3201 ∨ k = 3202 ∨ k = 3203 ∨ k = 3204 ∨ k = 3205) with c | c | c | c | c | c | c | c | c | c
  · have := (h1.1 k k0 c).1
    have e : (fun s => st s) k = st k := rfl
    omega
  · have := (h1.1 (k - 1000) (by omega) (by omega)).2
    have e : (fun s => st (1000 + s)) (k - 1000) = st (1000 + (k - 1000)) := rfl
    rw [show 1000 + (k - 1000) = k by omega] at e
    omega
  · have := h2.1 (k - 2000) (by omega) (by omega)
    rw [show 2000 + (k - 2000) = k by omega] at this
    omega
  · have := h5 k c.1 c.2; omega
  all_goals subst c; omega
theorem StV.r {st : Int → Int} (h : StV st) {k : Int} (k0 : 0 ≤ k) (k1 : k < 3206) : rI (st k) := by
  have := h.b k0 k1
  constructor <;> omega
theorem StV.congr {st st' : Int → Int} (h : StV st) (e : ∀ k, 0 ≤ k → k < 3206 → st' k = st k) : StV st' := by
  obtain ⟨h1, h2, h3, h4, h5, h6⟩ := h
  have e0 := e 3200 (by decide) (by decide)
  refine ⟨⟨fun s s0 s1 => ?_, ?_⟩, ⟨fun s s0 s1 => ?_, ?_⟩, ?_, ?_, fun k k0 k1 => ?_, fun i i0 i1 => ?_⟩
  · show (0 ≤ st' s ∧ st' s ≤ 99) ∧ 0 ≤ st' (1000 + s) ∧ st' (1000 + s) ≤ 99
    rw [e s s0 (by omega), e (1000 + s) (by omega) (by omega)]
    exact h1.1 s s0 s1
  · have q : cn (fun s => st' s) (fun s => st' (1000 + s)) = cn (fun s => st s) (fun s => st (1000 + s)) := rwN_congr 1000 (fun s s0 s1 => ⟨e s s0 (by omega), e (1000 + s) (by omega) (by omega)⟩)
    rw [q]
    exact h1.2
  · rw [e (2000 + s) (by omega) (by omega)]
    exact h2.1 s s0 s1
  · have q : cn (fun s => st' (2000 + s)) (fun _ => 0) = cn (fun s => st (2000 + s)) (fun _ => 0) := rwN_congr 1000 (fun s s0 s1 => ⟨e (2000 + s) (by omega) (by omega), rfl⟩)
    rw [q]
    exact h2.2
  · rw [e 3201 (by decide) (by decide), e 3202 (by decide) (by decide), e 3203 (by decide) (by decide), e 3204 (by decide) (by decide), e 3205 (by decide) (by decide)]
    exact h3
  · rw [e0]; exact h4
  · rw [e k (by omega) (by omega)]
    exact h5 k k0 k1
  · rw [e0] at i1
    rw [e (3000 + 5 * i) (by omega) (by omega), e (3000 + 5 * i + 3) (by omega) (by omega), e (3000 + 5 * i + 4) (by omega) (by omega)]
    exact h6 i i0 i1
/-- the class's pool and decisions, by the reference's state -/
def PoR (st : Int → Int) (le mo gc bc rc : Int) (g b op : Int → Int) : Prop := (∀ s, 0 ≤ s → s < 1000 → st s = g s ∧ st (1000 + s) = b s ∧ st (2000 + s) = op s) ∧ st 3201 = le ∧ st 3202 = mo ∧ st 3203 = gc ∧ st 3204 = bc ∧ st 3205 = rc
def DeR (st : Int → Int) (dz : Int) (ds dc da dr dl : Int → Int) : Prop := st 3200 = dz ∧ ∀ i, 0 ≤ i → i < dz → st (3000 + 5 * i) = ds i ∧ st (3000 + 5 * i + 1) = dc i ∧ st (3000 + 5 * i + 2) = da i ∧ st (3000 + 5 * i + 3) = dr i ∧ st (3000 + 5 * i + 4) = if dl i = 0 then 0 else 1
theorem PoR.st {st g b op : Int → Int} {le mo gc bc rc : Int} (h : PoR st le mo gc bc rc g b op) : StA st g b := fun s s0 s1 => ⟨(h.1 s s0 s1).1, (h.1 s s0 s1).2.1⟩
theorem PoR.fit {st g b op : Int → Int} {le mo gc bc rc : Int} (h : PoR st le mo gc bc rc g b op) (hv : StV st) : Fit g b := by
  refine ⟨fun s s0 s1 => ?_, ?_⟩
  · have q := hv.1.1 s s0 s1
    have q : (0 ≤ st s ∧ st s ≤ 99) ∧ 0 ≤ st (1000 + s) ∧ st (1000 + s) ≤ 99 := q
    obtain ⟨e1, e2, -⟩ := h.1 s s0 s1
    rw [e1, e2] at q
    exact q
  · have q : cn g b = cn (fun s => st s) (fun s => st (1000 + s)) := rwN_congr 1000 (fun s s0 s1 => ⟨(h.1 s s0 (by omega)).1.symm, (h.1 s s0 (by omega)).2.1.symm⟩)
    rw [q]
    exact hv.1.2
