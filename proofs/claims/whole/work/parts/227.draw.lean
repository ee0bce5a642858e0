/-! drawn rows -/
section
variable {N : Nat} {g b vg vb : Int → Int}
def dwG (g b v : Int → Int) (s : Int) : Int := if 0 < g s + b s then v (lb g b s) else 0
theorem drw (c : Nat) : c ≤ 1000 → rwN (dwG g b vg) (dwG g b vb) c = rwN vg vb (rwN g b c).toNat ∧ ∀ j, 0 ≤ j → j < rwN (dwG g b vg) (dwG g b vb) c → rwS (dwG g b vg) (dwG g b vb) c j = cs g b (rwS vg vb (rwN g b c).toNat j) := by
  induction c with
  | zero => intro _; exact ⟨rfl, fun j j0 j1 => by have : rwN (dwG g b vg) (dwG g b vb) 0 = 0 := rfl; omega⟩
  | succ c ih =>
    intro hc
    obtain ⟨h1, h2⟩ := ih (by omega)
    have r0 := rwN_0 (g := g) (b := b) c
    have ec : ((rwN g b c).toNat : Int) = rwN g b c := by omega
    have el : lb g b (c : Int) = rwN g b c := rfl
    by_cases p : 0 < g c + b c
    · have es : (rwN g b (c + 1)).toNat = (rwN g b c).toNat + 1 := by rw [rwN_p p]; omega
      have eg : dwG g b vg c = vg ((rwN g b c).toNat : Int) := by unfold dwG; rw [if_pos p, el, ec]
      have eb : dwG g b vb c = vb ((rwN g b c).toNat : Int) := by unfold dwG; rw [if_pos p, el, ec]
      have cc : cs g b (rwN g b c) = c := by
        rcases lb_s (g := g) (b := b) (c := (c : Int)) ⟨by omega, by omega⟩ with ⟨-, a2, -⟩ | ⟨a1, -⟩
        · exact a2
        · have e3 : lb g b ((c : Int) + 1) = rwN g b (c + 1) := rfl
          rw [e3, el, rwN_p p] at a1
          omega
      rw [es]
      by_cases q : 0 < vg ((rwN g b c).toNat : Int) + vb ((rwN g b c).toNat : Int)
      · rw [rwN_p (g := dwG g b vg) (b := dwG g b vb) (n := c) (by rw [eg, eb]; exact q), rwN_p q, rwS_p (g := dwG g b vg) (b := dwG g b vb) (n := c) (by rw [eg, eb]; exact q), rwS_p q]
        refine ⟨by rw [h1], fun j j0 j1 => ?_⟩
        by_cases e : j = rwN (dwG g b vg) (dwG g b vb) c
        · rw [e, uP_s, h1, uP_s, ec, cc]
        · rw [uP_o _ _ e, uP_o _ _ (by rw [← h1]; exact e)]
          exact h2 j j0 (by omega)
      · rw [rwN_n (g := dwG g b vg) (b := dwG g b vb) (n := c) (by rw [eg, eb]; exact q), rwN_n q, rwS_n (g := dwG g b vg) (b := dwG g b vb) (n := c) (by rw [eg, eb]; exact q), rwS_n q]
        exact ⟨h1, h2⟩
    · have eg : dwG g b vg c = 0 := if_neg p
      have eb : dwG g b vb c = 0 := if_neg p
      have q : ¬ 0 < dwG g b vg c + dwG g b vb c := by omega
      rw [rwN_n p, rwN_n q, rwS_n q]
      exact ⟨h1, h2⟩
/-- counts by rows: nothing outside -/
def DwI (g b vg vb : Int → Int) (t : Int) : Prop := (∀ i, 0 ≤ vg i ∧ 0 ≤ vb i) ∧ (∀ i, (i < 0 ∨ cn g b ≤ i) → vg i = 0 ∧ vb i = 0) ∧ sI vg (cn g b) + sI vb (cn g b) = t
theorem DwI.n (ok : okP g b) {t : Int} (h : DwI g b vg vb t) : cn vg vb = rwN vg vb (cn g b).toNat ∧ cn vg vb ≤ cn g b ∧ ∀ j, 0 ≤ j → j < cn vg vb → cs vg vb j = rwS vg vb (cn g b).toNat j := by
  have ok2 := ok.2.1
  have n0 := cn_0 g b
  have key : ∀ k : Nat, rwN vg vb ((cn g b).toNat + k) = rwN vg vb (cn g b).toNat ∧ rwS vg vb ((cn g b).toNat + k) = rwS vg vb (cn g b).toNat := by
    intro k
    induction k with
    | zero => exact ⟨rfl, rfl⟩
    | succ k ih =>
      have z := h.2.1 (((cn g b).toNat + k : Nat) : Int) (Or.inr (by omega))
      have q : ¬ 0 < vg (((cn g b).toNat + k : Nat) : Int) + vb (((cn g b).toNat + k : Nat) : Int) := by omega
      rw [← Nat.add_assoc, rwN_n q, rwS_n q]
      exact ih
  have e : (1000 : Nat) = (cn g b).toNat + (1000 - (cn g b).toNat) := by omega
  have k1 := key (1000 - (cn g b).toNat)
  rw [← e] at k1
  have r := rwN_0 (g := vg) (b := vb) (cn g b).toNat
  have e1 : cn vg vb = rwN vg vb (cn g b).toNat := k1.1
  refine ⟨e1, by omega, fun j j0 j1 => ?_⟩
  show rwS vg vb 1000 j = _
  rw [k1.2]
theorem DwI.rows (ok : okP g b) {t : Int} (h : DwI g b vg vb t) : cn (dwG g b vg) (dwG g b vb) = cn vg vb ∧ ∀ j, 0 ≤ j → j < cn vg vb → cs (dwG g b vg) (dwG g b vb) j = cs g b (cs vg vb j) ∧ cg (dwG g b vg) (dwG g b vb) j = vg (cs vg vb j) ∧ cb (dwG g b vg) (dwG g b vb) j = vb (cs vg vb j) := by
  obtain ⟨e1, e2, e3⟩ := h.n ok
  have d := drw (g := g) (b := b) (vg := vg) (vb := vb) 1000 (Nat.le_refl _)
  have d1 : cn (dwG g b vg) (dwG g b vb) = rwN vg vb (cn g b).toNat := d.1
  refine ⟨by omega, fun j j0 j1 => ?_⟩
  have c1 : cs (dwG g b vg) (dwG g b vb) j = cs g b (cs vg vb j) := by
    rw [e3 j j0 j1]
    exact d.2 j j0 (by show j < cn (dwG g b vg) (dwG g b vb); omega)
  have ci := cs_in (g := vg) (b := vb) j0 j1
  have hi : cs vg vb j < cn g b := by
    by_cases z : cs vg vb j < cn g b
    · exact z
    · have z2 := h.2.1 (cs vg vb j) (Or.inr (by omega))
      have := ci.2.2
      unfold cg cb at this
      omega
  have ck := cs_in (g := g) (b := b) ci.1 hi
  have el : lb g b (cs g b (cs vg vb j)) = cs vg vb j := by
    have q1 := lb_lt (g := g) (b := b) (c := cs g b (cs vg vb j)) (i := cs vg vb j) ⟨ck.1, by omega⟩ ci.1 hi
    have l0 := lb_in (g := g) (b := b) (c := cs g b (cs vg vb j)) (by omega)
    by_cases z : cs vg vb j = 0
    · omega
    · have q2 := lb_lt (g := g) (b := b) (c := cs g b (cs vg vb j)) (i := cs vg vb j - 1) ⟨ck.1, by omega⟩ (by omega) (by omega)
      have l := cs_lt (g := g) (b := b) (i := cs vg vb j - 1) (j := cs vg vb j) (by omega) (by omega) hi
      omega
  have pp : 0 < g (cs g b (cs vg vb j)) + b (cs g b (cs vg vb j)) := ck.2.2
  refine ⟨c1, ?_, ?_⟩
  · show dwG g b vg (cs (dwG g b vg) (dwG g b vb) j) = _
    rw [c1]
    unfold dwG
    rw [if_pos pp, el]
  · show dwG g b vb (cs (dwG g b vg) (dwG g b vb) j) = _
    rw [c1]
    unfold dwG
    rw [if_pos pp, el]
theorem sI_le_all {f : Int → Int} (hf : ∀ i, 0 ≤ f i) {n i : Int} (h0 : 0 ≤ i) (hi : i < n) : f i ≤ sI f n := by
  have key : ∀ (k : Nat), f i ≤ sI f (i + 1 + k) ∧ 0 ≤ sI f i := by
    intro k
    have nn : 0 ≤ sI f i := up_ind (P := fun i => 0 ≤ sI f i) (Int.le_refl 0) (fun j h ih => by rw [sI_s _ h]; have := hf j; omega) i h0
    refine ⟨?_, nn⟩
    induction k with
    | zero =>
      have e := sI_s f h0
      rw [show i + 1 + ((0 : Nat) : Int) = i + 1 by omega, e]
      omega
    | succ k ih =>
      have e := sI_s f (i := i + 1 + k) (by omega)
      rw [show i + 1 + ((k + 1 : Nat) : Int) = i + 1 + k + 1 by omega, e]
      have := hf (i + 1 + k)
      omega
  have := (key (n - i - 1).toNat).1
  rw [show i + 1 + (((n - i - 1).toNat : Nat) : Int) = n by omega] at this
  exact this
theorem DwI.ok (ok : okP g b) {t : Int} (ht : t ≤ 11880) (h : DwI g b vg vb t) : okP (dwG g b vg) (dwG g b vb) := by
  have ok2 := ok.2.1
  have n0 := cn_0 g b
  obtain ⟨r1, r2⟩ := h.rows ok
  obtain ⟨e1, e2, -⟩ := h.n ok
  have pos : ∀ i, vg i + vb i ≤ 11880 := by
    intro i
    by_cases c : i < 0 ∨ cn g b ≤ i
    · have := h.2.1 i c
      omega
    · have a1 := sI_le_all (fun i => (h.1 i).1) (n := cn g b) (i := i) (by omega) (by omega)
      have a2 := sI_le_all (fun i => (h.1 i).2) (n := cn g b) (i := i) (by omega) (by omega)
      have := h.2.2
      omega
  refine ⟨fun s s0 s1 => ?_, by omega, ?_⟩
  · unfold dwG
    by_cases c : 0 < g s + b s
    · rw [if_pos c, if_pos c]
      have := h.1 (lb g b s)
      have := pos (lb g b s)
      omega
    · rw [if_neg c, if_neg c]
      omega
  · have z : ∀ s, 0 ≤ s → s < 1000 → ¬ 0 < vg s + vb s → vg s = 0 ∧ vb s = 0 := by
      intro s _ _ c
      have := h.1 s
      omega
    have s1 := rows_sum (g := vg) (b := vb) (f := vg) (W := fun _ => 1) (fun s a c d => (z s a c d).1) (k := 1000) (by decide) (by decide)
    have s2 := rows_sum (g := vg) (b := vb) (f := vb) (W := fun _ => 1) (fun s a c d => (z s a c d).2) (k := 1000) (by decide) (by decide)
    simp only [Int.one_mul] at s1 s2
    have g1 : cG (dwG g b vg) (dwG g b vb) (cn vg vb) = sI (fun i => vg (cs vg vb i)) (cn vg vb) := sI_congr (fun j j0 j1 => (r2 j j0 j1).2.1)
    have g2 : cB (dwG g b vg) (dwG g b vb) (cn vg vb) = sI (fun i => vb (cs vg vb i)) (cn vg vb) := sI_congr (fun j j0 j1 => (r2 j j0 j1).2.2)
    have lall : lb vg vb 1000 = cn vg vb := rfl
    rw [lall] at s1 s2
    have ext : ∀ v : Int → Int, (∀ i, cn g b ≤ i → v i = 0) → sI v 1000 = sI v (cn g b) := by
      intro v hv
      have key : ∀ k : Nat, sI v (cn g b + k) = sI v (cn g b) := by
        intro k
        induction k with
        | zero => rw [show cn g b + ((0 : Nat) : Int) = cn g b by omega]
        | succ k ih => rw [show cn g b + ((k + 1 : Nat) : Int) = cn g b + k + 1 by omega, sI_s _ (by omega), ih, hv _ (by omega)]; omega
      have := key (1000 - cn g b).toNat
      rwa [show cn g b + ((1000 - cn g b).toNat : Int) = 1000 by omega] at this
    have x1 := ext vg (fun i hi => (h.2.1 i (Or.inr hi)).1)
    have x2 := ext vb (fun i hi => (h.2.1 i (Or.inr hi)).2)
    have := h.2.2
    rw [r1, g1, g2, ← s1, ← s2, x1, x2]
    omega
theorem closeUp_b7_ok (ok : okP g b) {sc : Int → Int} (hsc : ∀ i, 0 ≤ i → i < cn g b → sc i = cs g b i) {t : Int} (ht : t ≤ 11880) (h : DwI g b vg vb t) : ∀ (f k : Nat) (z : Int) (dsc tg tb : Int → Int), (k : Int) ≤ cn g b → z = rwN vg vb k → (∀ j, 0 ≤ j → j < z → dsc j = cs g b (rwS vg vb k j) ∧ tg j = vg (rwS vg vb k j) ∧ tb j = vb (rwS vg vb k j)) → (∀ i, (k : Int) ≤ i → i < cn g b → tg i = vg i ∧ tb i = vb i) → (cn g b - k).toNat < f → ∃ dsc' tg' tb', m_X8_closeUp_b7 N (cn g b) sc f z dsc tg tb k = some (cn vg vb, dsc', tg', tb') ∧ RwA (dwG g b vg) (dwG g b vb) dsc' tg' tb' := by
  have ok2 := ok.2.1
  obtain ⟨r1, r2⟩ := h.rows ok
  obtain ⟨e1, e2, e3⟩ := h.n ok
  intro f
  induction f with
  | zero => intro k z dsc tg tb _ _ _ _ h; omega
  | succ f ih =>
    intro k z dsc tg tb h1 hz hj hi hf
    have rk := rwN_0 (g := vg) (b := vb) k
    rw [m_X8_closeUp_b7]
    by_cases c : cn g b ≤ k
    · have ek : (cn g b).toNat = k := by omega
      rw [ek] at e1 e3
      refine ⟨dsc, tg, tb, ?_, fun j j0 j1 => ?_⟩
      · repeat (first | (with_reducible refine gd_ok ?_ ?_; focus (first | omega | assumption | ((repeat' refine And.intro ?_ ?_) <;> first | omega | assumption) | fail)) | (with_reducible refine ip_ok ?_ ?_; focus (first | omega | assumption | ((repeat' refine And.intro ?_ ?_) <;> first | omega | assumption) | fail)) | (with_reducible refine in_ok ?_ ?_; focus (first | omega | assumption | ((repeat' refine And.intro ?_ ?_) <;> first | omega | assumption) | fail)) | (rw [so_bd]; try dsimp only))
        rw [hz, e1]
      · rw [r1] at j1
        obtain ⟨a1, a2, a3⟩ := r2 j j0 j1
        obtain ⟨b1, b2, b3⟩ := hj j j0 (by omega)
        rw [a1, a2, a3, e3 j j0 j1]
        exact ⟨b1, b2, b3⟩
    · obtain ⟨t1, t2⟩ := hi k (Int.le_refl _) (by omega)
      have hp := h.1 k
      have q1 : vg k + vb k ≤ 11880 := by
        have a1 := sI_le_all (fun i => (h.1 i).1) (n := cn g b) (i := k) (by omega) (by omega)
        have a2 := sI_le_all (fun i => (h.1 i).2) (n := cn g b) (i := k) (by omega) (by omega)
        have := h.2.2
        omega
      have kc : ((k + 1 : Nat) : Int) = (k : Int) + 1 := by omega
      rw [t1, t2]
      by_cases p : 0 < vg k + vb k
      · have ih := ih (k + 1) (z + 1) (uP dsc z (sc k)) (uP tg z (vg k)) (uP tb z (vb k)) (by omega) (by rw [rwN_p p, hz]) (fun j j0 j1 => by
          rw [rwS_p p, ← hz]
          by_cases e : j = z
          · rw [e, uP_s, uP_s, uP_s, uP_s, hsc k (by omega) (by omega)]
            exact ⟨rfl, rfl, rfl⟩
          · rw [uP_o _ _ e, uP_o _ _ e, uP_o _ _ e, uP_o _ _ e]
            exact hj j j0 (by omega)) (fun i i0 i1 => by
          rw [uP_o _ _ (by omega), uP_o _ _ (by omega)]
          exact hi i (by omega) i1) (by omega)
        rw [kc] at ih
        obtain ⟨x1, x2, x3, q1, q2⟩ := ih
        refine ⟨x1, x2, x3, ?_, q2⟩
        repeat (first | (with_reducible refine gd_ok ?_ ?_; focus (first | omega | assumption | ((repeat' refine And.intro ?_ ?_) <;> first | omega | assumption) | fail)) | (with_reducible refine ip_ok ?_ ?_; focus (first | omega | assumption | ((repeat' refine And.intro ?_ ?_) <;> first | omega | assumption) | fail)) | (with_reducible refine in_ok ?_ ?_; focus (first | omega | assumption | ((repeat' refine And.intro ?_ ?_) <;> first | omega | assumption) | fail)) | (rw [so_bd]; try dsimp only))
        exact q1
      · have ih := ih (k + 1) z dsc tg tb (by omega) (by rw [rwN_n p, hz]) (by rw [rwS_n p]; exact hj) (fun i i0 i1 => hi i (by omega) i1) (by omega)
        rw [kc] at ih
        obtain ⟨x1, x2, x3, q1, q2⟩ := ih
        refine ⟨x1, x2, x3, ?_, q2⟩
        repeat (first | (with_reducible refine gd_ok ?_ ?_; focus (first | omega | assumption | ((repeat' refine And.intro ?_ ?_) <;> first | omega | assumption) | fail)) | (with_reducible refine ip_ok ?_ ?_; focus (first | omega | assumption | ((repeat' refine And.intro ?_ ?_) <;> first | omega | assumption) | fail)) | (with_reducible refine in_ok ?_ ?_; focus (first | omega | assumption | ((repeat' refine And.intro ?_ ?_) <;> first | omega | assumption) | fail)) | (rw [so_bd]; try dsimp only))
        exact q1
theorem takes_b5_ok (ok : okP g b) {t : Int} (ht : t ≤ 11880) (h : DwI g b vg vb t) : ∀ (f k : Nat) (z : Int) (sc tg tb : Int → Int), (k : Int) ≤ cn g b → z = rwN vg vb k → (∀ j, 0 ≤ j → j < z → sc j = cs g b (rwS vg vb k j) ∧ tg j = vg (rwS vg vb k j) ∧ tb j = vb (rwS vg vb k j)) → (∀ i, (k : Int) ≤ i → i < cn g b → sc i = cs g b i) → (cn g b - k).toNat < f → ∃ sc' tg' tb', m_X13_takes_b5 N vg 61 vb 61 (cn g b) f sc tg tb z k = some (cn vg vb, sc', tg', tb') ∧ RwA (dwG g b vg) (dwG g b vb) sc' tg' tb' := by
  have ok2 := ok.2.1
  obtain ⟨r1, r2⟩ := h.rows ok
  obtain ⟨e1, e2, e3⟩ := h.n ok
  intro f
  induction f with
  | zero => intro k z sc tg tb _ _ _ _ h; omega
  | succ f ih =>
    intro k z sc tg tb h1 hz hj hi hf
    have rk := rwN_0 (g := vg) (b := vb) k
    rw [m_X13_takes_b5]
    by_cases c : cn g b ≤ k
    · have ek : (cn g b).toNat = k := by omega
      rw [ek] at e1 e3
      refine ⟨sc, tg, tb, ?_, fun j j0 j1 => ?_⟩
      · repeat (first | (with_reducible refine gd_ok ?_ ?_; focus (first | omega | assumption | ((repeat' refine And.intro ?_ ?_) <;> first | omega | assumption) | fail)) | (with_reducible refine ip_ok ?_ ?_; focus (first | omega | assumption | ((repeat' refine And.intro ?_ ?_) <;> first | omega | assumption) | fail)) | (with_reducible refine in_ok ?_ ?_; focus (first | omega | assumption | ((repeat' refine And.intro ?_ ?_) <;> first | omega | assumption) | fail)) | (rw [so_bd]; try dsimp only))
        rw [hz, e1]
      · rw [r1] at j1
        obtain ⟨a1, a2, a3⟩ := r2 j j0 j1
        obtain ⟨b1, b2, b3⟩ := hj j j0 (by omega)
        rw [a1, a2, a3, e3 j j0 j1]
        exact ⟨b1, b2, b3⟩
    · have hp := h.1 k
      have q1 : vg k + vb k ≤ 11880 := by
        have a1 := sI_le_all (fun i => (h.1 i).1) (n := cn g b) (i := k) (by omega) (by omega)
        have a2 := sI_le_all (fun i => (h.1 i).2) (n := cn g b) (i := k) (by omega) (by omega)
        have := h.2.2
        omega
      have kc : ((k + 1 : Nat) : Int) = (k : Int) + 1 := by omega
      by_cases p : 0 < vg k + vb k
      · have ih := ih (k + 1) (z + 1) (uP sc z (sc k)) (uP tg z (vg k)) (uP tb z (vb k)) (by omega) (by rw [rwN_p p, hz]) (fun j j0 j1 => by
          rw [rwS_p p, ← hz]
          by_cases e : j = z
          · rw [e, uP_s, uP_s, uP_s, uP_s, hi k (Int.le_refl _) (by omega)]
            exact ⟨rfl, rfl, rfl⟩
          · rw [uP_o _ _ e, uP_o _ _ e, uP_o _ _ e, uP_o _ _ e]
            exact hj j j0 (by omega)) (fun i i0 i1 => by
          rw [uP_o _ _ (by omega)]
          exact hi i (by omega) i1) (by omega)
        rw [kc] at ih
        obtain ⟨x1, x2, x3, q1, q2⟩ := ih
        refine ⟨x1, x2, x3, ?_, q2⟩
        repeat (first | (with_reducible refine gd_ok ?_ ?_; focus (first | omega | assumption | ((repeat' refine And.intro ?_ ?_) <;> first | omega | assumption) | fail)) | (with_reducible refine ip_ok ?_ ?_; focus (first | omega | assumption | ((repeat' refine And.intro ?_ ?_) <;> first | omega | assumption) | fail)) | (with_reducible refine in_ok ?_ ?_; focus (first | omega | assumption | ((repeat' refine And.intro ?_ ?_) <;> first | omega | assumption) | fail)) | (rw [so_bd]; try dsimp only))
        exact q1
      · have ih := ih (k + 1) z sc tg tb (by omega) (by rw [rwN_n p, hz]) (by rw [rwS_n p]; exact hj) (fun i i0 i1 => hi i (by omega) i1) (by omega)
        rw [kc] at ih
        obtain ⟨x1, x2, x3, q1, q2⟩ := ih
        refine ⟨x1, x2, x3, ?_, q2⟩
        repeat (first | (with_reducible refine gd_ok ?_ ?_; focus (first | omega | assumption | ((repeat' refine And.intro ?_ ?_) <;> first | omega | assumption) | fail)) | (with_reducible refine ip_ok ?_ ?_; focus (first | omega | assumption | ((repeat' refine And.intro ?_ ?_) <;> first | omega | assumption) | fail)) | (with_reducible refine in_ok ?_ ?_; focus (first | omega | assumption | ((repeat' refine And.intro ?_ ?_) <;> first | omega | assumption) | fail)) | (rw [so_bd]; try dsimp only))
        exact q1
end
