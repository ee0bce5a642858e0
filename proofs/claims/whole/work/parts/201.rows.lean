/-! ROWS of counts by scores, as both sides lay them -/
theorem mul_bd {a b A B : Int} (ha : 0 ≤ a ∧ a ≤ A) (hb : 0 ≤ b ∧ b ≤ B) : 0 ≤ a * b ∧ a * b ≤ A * B := ⟨Int.mul_nonneg ha.1 hb.1, Int.mul_le_mul ha.2 hb.2 hb.1 (by omega)⟩
def rwN (g b : Int → Int) : Nat → Int
  | 0 => 0
  | n + 1 => if 0 < g n + b n then rwN g b n + 1 else rwN g b n
def rwS (g b : Int → Int) : Nat → Int → Int
  | 0 => fun _ => 0
  | n + 1 => if 0 < g n + b n then uP (rwS g b n) (rwN g b n) n else rwS g b n
theorem rwN_p {g b : Int → Int} {n : Nat} (h : 0 < g n + b n) : rwN g b (n + 1) = rwN g b n + 1 := if_pos h
theorem rwN_n {g b : Int → Int} {n : Nat} (h : ¬ 0 < g n + b n) : rwN g b (n + 1) = rwN g b n := if_neg h
theorem rwS_p {g b : Int → Int} {n : Nat} (h : 0 < g n + b n) : rwS g b (n + 1) = uP (rwS g b n) (rwN g b n) n := if_pos h
theorem rwS_n {g b : Int → Int} {n : Nat} (h : ¬ 0 < g n + b n) : rwS g b (n + 1) = rwS g b n := if_neg h
theorem rwN_0 {g b : Int → Int} (n : Nat) : 0 ≤ rwN g b n ∧ rwN g b n ≤ n := by
  induction n with
  | zero => exact ⟨Int.le_refl _, Int.le_refl _⟩
  | succ n ih =>
    by_cases h : 0 < g n + b n
    · rw [rwN_p h]; omega
    · rw [rwN_n h]; omega
theorem rwN_le {g b : Int → Int} {k n : Nat} (h : k ≤ n) : rwN g b k ≤ rwN g b n := by
  induction n with
  | zero => have : k = 0 := by omega
            subst this; exact Int.le_refl _
  | succ n ih =>
    by_cases e : k = n + 1
    · subst e; exact Int.le_refl _
    · have := ih (by omega)
      by_cases h : 0 < g n + b n
      · rw [rwN_p h]; omega
      · rw [rwN_n h]; omega
theorem rwS_pre {g b : Int → Int} {k n : Nat} (h : k ≤ n) {i : Int} (hi : i < rwN g b k) : rwS g b n i = rwS g b k i := by
  induction n with
  | zero => have : k = 0 := by omega
            subst this; rfl
  | succ n ih =>
    by_cases e : k = n + 1
    · subst e; rfl
    · have := ih (by omega)
      by_cases h : 0 < g n + b n
      · have := rwN_le (g := g) (b := b) (show k ≤ n by omega)
        rw [rwS_p h, uP_o _ _ (by omega)]; assumption
      · rw [rwS_n h]; assumption
theorem rwS_in {g b : Int → Int} (n : Nat) {i : Int} (h0 : 0 ≤ i) (hi : i < rwN g b n) : 0 ≤ rwS g b n i ∧ rwS g b n i < n ∧ 0 < g (rwS g b n i) + b (rwS g b n i) := by
  induction n with
  | zero => have : rwN g b 0 = 0 := rfl
            omega
  | succ n ih =>
    by_cases h : 0 < g n + b n
    · rw [rwN_p h] at hi
      rw [rwS_p h]
      by_cases e : i = rwN g b n
      · rw [e, uP_s]; exact ⟨by omega, by omega, h⟩
      · rw [uP_o _ _ e]
        have := ih (by omega)
        exact ⟨this.1, by omega, this.2.2⟩
    · rw [rwN_n h] at hi
      rw [rwS_n h]
      have := ih hi
      exact ⟨this.1, by omega, this.2.2⟩
theorem rwS_lt {g b : Int → Int} (n : Nat) {i j : Int} (h0 : 0 ≤ i) (hij : i < j) (hj : j < rwN g b n) : rwS g b n i < rwS g b n j := by
  induction n with
  | zero => have : rwN g b 0 = 0 := rfl
            omega
  | succ n ih =>
    by_cases h : 0 < g n + b n
    · rw [rwN_p h] at hj
      rw [rwS_p h]
      by_cases e : j = rwN g b n
      · rw [e, uP_s, uP_o _ _ (by omega)]
        exact (rwS_in n h0 (by omega)).2.1
      · rw [uP_o _ _ e, uP_o _ _ (by omega)]
        exact ih (by omega)
    · rw [rwN_n h] at hj
      rw [rwS_n h]
      exact ih hj
theorem rwS_ex {g b : Int → Int} (n : Nat) {s : Int} (h0 : 0 ≤ s) (hs : s < n) (hp : 0 < g s + b s) : ∃ i, 0 ≤ i ∧ i < rwN g b n ∧ rwS g b n i = s := by
  induction n with
  | zero => omega
  | succ n ih =>
    have hz := rwN_0 (g := g) (b := b) n
    by_cases e : s = n
    · subst e
      rw [rwN_p hp, rwS_p hp]
      exact ⟨rwN g b n, hz.1, by omega, uP_s _ _ _⟩
    · obtain ⟨i, i0, i1, i2⟩ := ih (by omega)
      refine ⟨i, i0, ?_, ?_⟩
      · have := rwN_le (g := g) (b := b) (show n ≤ n + 1 by omega); omega
      · rw [rwS_pre (show n ≤ n + 1 by omega) i1]; exact i2
def cn (g b : Int → Int) : Int := rwN g b 1000
def cs (g b : Int → Int) : Int → Int := rwS g b 1000
def cg (g b : Int → Int) (i : Int) : Int := g (cs g b i)
def cb (g b : Int → Int) (i : Int) : Int := b (cs g b i)
def cG (g b : Int → Int) (i : Int) : Int := sI (cg g b) i
def cB (g b : Int → Int) (i : Int) : Int := sI (cb g b) i
def okP (g b : Int → Int) : Prop := (∀ s, 0 ≤ s → s < 1000 → 0 ≤ g s ∧ 0 ≤ b s ∧ g s + b s ≤ 11880) ∧ cn g b ≤ 60 ∧ cG g b (cn g b) + cB g b (cn g b) ≤ 11880
theorem cs_in {g b : Int → Int} {i : Int} (h0 : 0 ≤ i) (hi : i < cn g b) : 0 ≤ cs g b i ∧ cs g b i < 1000 ∧ 0 < cg g b i + cb g b i := rwS_in 1000 h0 hi
theorem cs_lt {g b : Int → Int} {i j : Int} (h0 : 0 ≤ i) (hij : i < j) (hj : j < cn g b) : cs g b i < cs g b j := rwS_lt 1000 h0 hij hj
theorem cs_ex {g b : Int → Int} {s : Int} (h0 : 0 ≤ s) (hs : s < 1000) (hp : 0 < g s + b s) : ∃ i, 0 ≤ i ∧ i < cn g b ∧ cs g b i = s := rwS_ex 1000 h0 hs hp
theorem cn_0 (g b : Int → Int) : 0 ≤ cn g b := (rwN_0 1000).1
theorem cg_in {g b : Int → Int} (ok : okP g b) {i : Int} (h0 : 0 ≤ i) (hi : i < cn g b) : 0 ≤ cg g b i ∧ 0 ≤ cb g b i ∧ cg g b i + cb g b i ≤ 11880 := by
  have h := cs_in h0 hi
  exact ok.1 _ h.1 h.2.1
theorem cG_s {g b : Int → Int} {i : Int} (h : 0 ≤ i) : cG g b (i + 1) = cG g b i + cg g b i := sI_s _ h
theorem cB_s {g b : Int → Int} {i : Int} (h : 0 ≤ i) : cB g b (i + 1) = cB g b i + cb g b i := sI_s _ h
theorem cG_m {g b : Int → Int} (ok : okP g b) {i j : Int} (h0 : 0 ≤ i) (hij : i ≤ j) (hj : j ≤ cn g b) : cG g b i ≤ cG g b j := by
  have := (sI_ab (K := 11880) (fun k k0 k1 => (by have := cg_in ok k0 k1; exact ⟨this.1, by omega⟩ : 0 ≤ cg g b k ∧ cg g b k ≤ 11880)) h0 j hij hj).1
  unfold cG
  omega
theorem cB_m {g b : Int → Int} (ok : okP g b) {i j : Int} (h0 : 0 ≤ i) (hij : i ≤ j) (hj : j ≤ cn g b) : cB g b i ≤ cB g b j := by
  have := (sI_ab (K := 11880) (fun k k0 k1 => (by have := cg_in ok k0 k1; exact ⟨this.2.1, by omega⟩ : 0 ≤ cb g b k ∧ cb g b k ≤ 11880)) h0 j hij hj).1
  unfold cB
  omega
theorem cG_b {g b : Int → Int} (ok : okP g b) {i : Int} (h0 : 0 ≤ i) (hj : i ≤ cn g b) : 0 ≤ cG g b i ∧ 0 ≤ cB g b i ∧ cG g b i + cB g b i ≤ 11880 := by
  have h1 := cG_m ok (Int.le_refl 0) h0 hj
  have h2 := cB_m ok (Int.le_refl 0) h0 hj
  have h3 := cG_m ok h0 hj (Int.le_refl _)
  have h4 := cB_m ok h0 hj (Int.le_refl _)
  have e1 : cG g b 0 = 0 := rfl
  have e2 : cB g b 0 = 0 := rfl
  have := ok.2.2
  omega
/-- at least one case in each row -/
theorem cC_d {g b : Int → Int} {i j : Int} (h0 : 0 ≤ i) (hij : i ≤ j) (hj : j ≤ cn g b) : j - i ≤ (cG g b j + cB g b j) - (cG g b i + cB g b i) := by
  obtain ⟨k, hk⟩ := Int.le.dest hij
  induction k generalizing j with
  | zero => have : j = i := by omega
            subst this; omega
  | succ k ih =>
    have h1 := ih (j := j - 1) (by omega) (by omega) (by omega)
    have h2 := (cs_in (g := g) (b := b) (i := j - 1) (by omega) (by omega)).2.2
    have e1 := cG_s (g := g) (b := b) (i := j - 1) (by omega)
    have e2 := cB_s (g := g) (b := b) (i := j - 1) (by omega)
    have e : j - 1 + 1 = j := by omega
    rw [e] at e1 e2
    omega
/-- rows as they lie -/
def RwA (g b : Int → Int) (sc go ba : Int → Int) : Prop := ∀ i, 0 ≤ i → i < cn g b → sc i = cs g b i ∧ go i = cg g b i ∧ ba i = cb g b i
def AhA (g b : Int → Int) (gA bA : Int → Int) : Prop := ∀ i, 0 ≤ i → i ≤ cn g b → gA i = cG g b i ∧ bA i = cB g b i
theorem RwA.in_ {g b sc go ba : Int → Int} (h : RwA g b sc go ba) (ok : okP g b) {i : Int} (h0 : 0 ≤ i) (hi : i < cn g b) : (0 ≤ sc i ∧ sc i < 1000) ∧ 0 ≤ go i ∧ 0 ≤ ba i ∧ go i + ba i ≤ 11880 ∧ 0 < go i + ba i := by
  obtain ⟨e1, e2, e3⟩ := h i h0 hi
  have h1 := cs_in h0 hi
  have h2 := cg_in ok h0 hi
  rw [e1, e2, e3]
  exact ⟨⟨h1.1, h1.2.1⟩, h2.1, h2.2.1, h2.2.2, h1.2.2⟩
theorem AhA.in_ {g b gA bA : Int → Int} (h : AhA g b gA bA) (ok : okP g b) {i : Int} (h0 : 0 ≤ i) (hi : i ≤ cn g b) : 0 ≤ gA i ∧ 0 ≤ bA i ∧ gA i + bA i ≤ 11880 := by
  obtain ⟨e1, e2⟩ := h i h0 hi
  rw [e1, e2]
  exact cG_b ok h0 hi
theorem rw_step {g b sc go ba : Int → Int} {k : Nat} {z : Int} (hz : z = rwN g b k) (h : ∀ i, 0 ≤ i → i < z → sc i = rwS g b k i ∧ go i = g (rwS g b k i) ∧ ba i = b (rwS g b k i)) (hp : 0 < g k + b k) : ∀ i, 0 ≤ i → i < z + 1 → uP sc z (k : Int) i = rwS g b (k + 1) i ∧ uP go z (g k) i = g (rwS g b (k + 1) i) ∧ uP ba z (b k) i = b (rwS g b (k + 1) i) := by
  intro i h0 h1
  rw [rwS_p hp, ← hz]
  by_cases e : i = z
  · rw [e, uP_s, uP_s, uP_s, uP_s]; exact ⟨rfl, rfl, rfl⟩
  · rw [uP_o _ _ e, uP_o _ _ e, uP_o _ _ e, uP_o _ _ e]; exact h i h0 (by omega)
theorem rw_end {g b sc go ba : Int → Int} {k : Nat} (hk : k ≤ 1000) (hz : rwN g b k = cn g b) (h : ∀ i, 0 ≤ i → i < rwN g b k → sc i = rwS g b k i ∧ go i = g (rwS g b k i) ∧ ba i = b (rwS g b k i)) : RwA g b sc go ba := by
  intro i h0 h1
  have h1 : i < rwN g b k := by omega
  have e : cs g b i = rwS g b k i := rwS_pre hk h1
  unfold cg cb
  rw [e]
  exact h i h0 h1
theorem fill_b7_ok {N : Nat} {g b gA bA : Int → Int} (ok : okP g b) : ∀ (f k : Nat) (y z : Int) (sc go ba : Int → Int), y = (k : Int) → k ≤ 1000 → 1000 - k < f → z = rwN g b k → (∀ i, 0 ≤ i → i < z → sc i = rwS g b k i ∧ go i = g (rwS g b k i) ∧ ba i = b (rwS g b k i)) → ∃ sc' go' ba', m_X8_fill_b7 N g b gA bA f z sc go ba y = m_X8_fill_b95 N g b (cn g b) sc' go' ba' gA bA ∧ RwA g b sc' go' ba' := by
  intro f
  induction f with
  | zero => intro k y z sc go ba _ _ h; omega
  | succ f ih =>
    intro k y z sc go ba hy hk hf hz h
    have hz0 := rwN_0 (g := g) (b := b) k
    have hz1 : rwN g b k ≤ cn g b := rwN_le hk
    have ok2 := ok.2.1
    rw [m_X8_fill_b7]
    by_cases c1 : (1000 : Int) ≤ y
    · have e : k = 1000 := by omega
      subst e
      have ez : z = cn g b := hz
      refine ⟨sc, go, ba, ?_, rw_end hk rfl (by rw [← hz]; exact h)⟩
      refine gd_ok (by first | omega | (constructor <;> omega) | assumption) ?_
      refine ip_ok (c1) ?_
      rw [ez]
    · have hin := ok.1 y (by omega) (by omega)
      by_cases c2 : (60 : Int) ≤ z
      · have e : rwN g b k = cn g b := by omega
        have ez : z = cn g b := by omega
        refine ⟨sc, go, ba, ?_, rw_end hk e (by rw [← hz]; exact h)⟩
        refine gd_ok (by first | omega | (constructor <;> omega) | assumption) ?_
        refine in_ok (c1) ?_
        refine gd_ok (by first | omega | (constructor <;> omega) | assumption) ?_
        refine ip_ok (c2) ?_
        rw [ez]
      · by_cases c3 : g y + b y ≤ 0
        · have hn : ¬ 0 < g k + b k := by rw [← hy]; omega
          obtain ⟨sc', go', ba', e1, e2⟩ := ih (k + 1) (y + 1) z sc go ba (by omega) (by omega) (by omega) (by rw [rwN_n hn]; exact hz) (by rw [rwS_n hn]; exact h)
          refine ⟨sc', go', ba', ?_, e2⟩
          refine gd_ok (by first | omega | (constructor <;> omega) | assumption) ?_
          refine in_ok (c1) ?_
          refine gd_ok (by first | omega | (constructor <;> omega) | assumption) ?_
          refine in_ok (c2) ?_
          refine gd_ok (by first | omega | (constructor <;> omega) | assumption) ?_
          refine gd_ok (by first | omega | (constructor <;> omega) | assumption) ?_
          refine ip_ok (c3) ?_
          rw [m_X8_fill_b89]
          exact e1
        · have hp : 0 < g k + b k := by rw [← hy]; omega
          have hs := rw_step hz h hp
          rw [← hy] at hs
          obtain ⟨sc', go', ba', e1, e2⟩ := ih (k + 1) (y + 1) (z + 1) _ _ _ (by omega) (by omega) (by omega) (by rw [rwN_p hp]; omega) hs
          refine ⟨sc', go', ba', ?_, e2⟩
          refine gd_ok (by first | omega | (constructor <;> omega) | assumption) ?_
          refine in_ok (c1) ?_
          refine gd_ok (by first | omega | (constructor <;> omega) | assumption) ?_
          refine in_ok (c2) ?_
          refine gd_ok (by first | omega | (constructor <;> omega) | assumption) ?_
          refine gd_ok (by first | omega | (constructor <;> omega) | assumption) ?_
          refine in_ok (c3) ?_
          refine gd_ok (by first | omega | (constructor <;> omega) | assumption) ?_
          rw [m_X8_fill_b89]
          exact e1
theorem sumUp_b2_ok {N : Nat} {n : Int} (hn : 0 ≤ n ∧ n ≤ 60) {go ba : Int → Int} : ∀ (f : Nat) (gA bA : Int → Int) (y : Int), 0 ≤ y → y ≤ n → (n - y).toNat < f → (∀ i, 0 ≤ i → i ≤ y → gA i = sI go i ∧ bA i = sI ba i) → ∃ gA' bA', m_X8_sumUp_b2 N n go ba f gA bA y = some (gA', bA') ∧ ∀ i, 0 ≤ i → i ≤ n → gA' i = sI go i ∧ bA' i = sI ba i := by
  intro f
  induction f with
  | zero => intro gA bA y _ _ h; omega
  | succ f ih =>
    intro gA bA y h0 h1 hf h
    rw [m_X8_sumUp_b2]
    by_cases c1 : n ≤ y
    · refine ⟨gA, bA, ?_, fun i i0 i1 => h i i0 (by omega)⟩
      refine gd_ok (by first | omega | (constructor <;> omega) | assumption) ?_
      refine gd_ok (by first | omega | (constructor <;> omega) | assumption) ?_
      refine ip_ok (c1) ?_
      rfl
    · have hy := h y h0 (Int.le_refl y)
      obtain ⟨gA', bA', e1, e2⟩ := ih (uP gA (y + 1) (gA y + go y)) (uP bA (y + 1) (bA y + ba y)) (y + 1) (by omega) (by omega) (by omega) (fun i i0 i1 => by
        by_cases e : i = y + 1
        · rw [e, uP_s, uP_s, sI_s _ h0, sI_s _ h0, hy.1, hy.2]; exact ⟨rfl, rfl⟩
        · rw [uP_o _ _ e, uP_o _ _ e]; exact h i i0 (by omega))
      refine ⟨gA', bA', ?_, e2⟩
      refine gd_ok (by first | omega | (constructor <;> omega) | assumption) ?_
      refine gd_ok (by first | omega | (constructor <;> omega) | assumption) ?_
      refine in_ok (c1) ?_
      refine gd_ok (by first | omega | (constructor <;> omega) | assumption) ?_
      refine gd_ok (by first | omega | (constructor <;> omega) | assumption) ?_
      refine gd_ok (by first | omega | (constructor <;> omega) | assumption) ?_
      exact e1
theorem sumUp_ok {N : Nat} (hN : 40000 ≤ N) {n : Int} (hn : 0 ≤ n ∧ n ≤ 60) {go ba gA bA : Int → Int} (h0 : gA 0 = 0 ∧ bA 0 = 0) : ∃ gA' bA', m_X8_sumUp N n go ba gA bA = some (gA', bA') ∧ ∀ i, 0 ≤ i → i ≤ n → gA' i = sI go i ∧ bA' i = sI ba i :=
  sumUp_b2_ok hn N gA bA 0 (Int.le_refl 0) hn.1 (by omega) (fun i i0 i1 => by
    have : i = 0 := by omega
    subst this
    exact h0)
theorem fill_ok {N : Nat} (hN : 40000 ≤ N) {g b : Int → Int} (ok : okP g b) {z : Int} {sc go ba gA bA : Int → Int} (h0 : gA 0 = 0 ∧ bA 0 = 0) : ∃ sc' go' ba' gA' bA', m_X8_fill N g b z sc go ba gA bA = some (cn g b, sc', go', ba', gA', bA') ∧ RwA g b sc' go' ba' ∧ AhA g b gA' bA' := by
  obtain ⟨sc', go', ba', e1, e2⟩ := fill_b7_ok (N := N) (gA := gA) (bA := bA) ok N 0 0 0 sc go ba rfl (by omega) (by omega) rfl (fun i i0 i1 => by omega)
  obtain ⟨gA', bA', e3, e4⟩ := sumUp_ok hN (n := cn g b) ⟨cn_0 g b, ok.2.1⟩ (go := go') (ba := ba') h0
  refine ⟨sc', go', ba', gA', bA', ?_, e2, fun i i0 i1 => ?_⟩
  · rw [m_X8_fill, e1, m_X8_fill_b95]
    refine bd_ok (e3) ?_
    rfl
  · obtain ⟨a1, a2⟩ := e4 i i0 i1
    rw [a1, a2]
    exact ⟨sI_congr (fun j j0 j1 => (e2 j j0 (by omega)).2.1), sI_congr (fun j j0 j1 => (e2 j j0 (by omega)).2.2)⟩
/-! the reference's -/
def StA (st g b : Int → Int) : Prop := ∀ s, 0 ≤ s → s < 1000 → st s = g s ∧ st (1000 + s) = b s
theorem laysRows_b7_ok {N : Nat} {st g b : Int → Int} (ok : okP g b) (hst : StA st g b) : ∀ (f k : Nat) (y z : Int) (sc go ba : Int → Int), y = (k : Int) → k ≤ 1000 → 1000 - k < f → z = rwN g b k → (∀ i, 0 ≤ i → i < z → sc i = rwS g b k i ∧ go i = g (rwS g b k i) ∧ ba i = b (rwS g b k i)) → ∃ sc' go' ba', m_X13_laysRows_b7 N st f z sc go ba y = some (cn g b, sc', go', ba') ∧ RwA g b sc' go' ba' := by
  intro f
  induction f with
  | zero => intro k y z sc go ba _ _ h; omega
  | succ f ih =>
    intro k y z sc go ba hy hk hf hz h
    have hz0 := rwN_0 (g := g) (b := b) k
    have hz1 : rwN g b k ≤ cn g b := rwN_le hk
    have ok2 := ok.2.1
    rw [m_X13_laysRows_b7]
    simp only [Int.zero_add]
    by_cases c1 : (1000 : Int) ≤ y
    · have e : k = 1000 := by omega
      subst e
      have ez : z = cn g b := hz
      refine ⟨sc, go, ba, ?_, rw_end hk rfl (by rw [← hz]; exact h)⟩
      refine gd_ok (by first | omega | (constructor <;> omega) | assumption) ?_
      refine ip_ok (c1) ?_
      rw [ez]
    · have hin := ok.1 y (by omega) (by omega)
      obtain ⟨s1, s2⟩ := hst y (by omega) (by omega)
      rw [s1, s2]
      by_cases c3 : g y + b y ≤ 0
      · have hn : ¬ 0 < g k + b k := by rw [← hy]; omega
        obtain ⟨sc', go', ba', e1, e2⟩ := ih (k + 1) (y + 1) z sc go ba (by omega) (by omega) (by omega) (by rw [rwN_n hn]; exact hz) (by rw [rwS_n hn]; exact h)
        refine ⟨sc', go', ba', ?_, e2⟩
        refine gd_ok (by first | omega | (constructor <;> omega) | assumption) ?_
        refine in_ok (c1) ?_
        refine gd_ok (by first | omega | (constructor <;> omega) | assumption) ?_
        refine gd_ok (by first | omega | (constructor <;> omega) | assumption) ?_
        refine gd_ok (by first | omega | (constructor <;> omega) | assumption) ?_
        refine ip_ok (c3) ?_
        rw [m_X13_laysRows_b92]
        exact e1
      · have hp : 0 < g k + b k := by rw [← hy]; omega
        have hs := rw_step hz h hp
        have hz2 : rwN g b (k + 1) ≤ cn g b := rwN_le (by omega)
        rw [rwN_p hp] at hz2
        rw [← hy] at hs
        obtain ⟨sc', go', ba', e1, e2⟩ := ih (k + 1) (y + 1) (z + 1) _ _ _ (by omega) (by omega) (by omega) (by rw [rwN_p hp]; omega) hs
        refine ⟨sc', go', ba', ?_, e2⟩
        refine gd_ok (by first | omega | (constructor <;> omega) | assumption) ?_
        refine in_ok (c1) ?_
        refine gd_ok (by first | omega | (constructor <;> omega) | assumption) ?_
        refine gd_ok (by first | omega | (constructor <;> omega) | assumption) ?_
        refine gd_ok (by first | omega | (constructor <;> omega) | assumption) ?_
        refine in_ok (c3) ?_
        refine gd_ok (by first | omega | (constructor <;> omega) | assumption) ?_
        rw [m_X13_laysRows_b92]
        exact e1
theorem laysRows_ok {N : Nat} (hN : 40000 ≤ N) {st g b : Int → Int} (ok : okP g b) (hst : StA st g b) {z : Int} {sc go ba : Int → Int} : ∃ sc' go' ba', m_X13_laysRows N st z sc go ba = some (cn g b, sc', go', ba') ∧ RwA g b sc' go' ba' :=
  laysRows_b7_ok ok hst N 0 0 0 sc go ba rfl (by omega) (by omega) rfl (fun i i0 i1 => by omega)
/-- goods, bads, cases of rows from one on to below another -/
def wh (w : Int) (G B : Int → Int) (i : Int) : Int := if w = 0 then G i else if w = 1 then B i else G i + B i
theorem of_b6_ok {N : Nat} {g b sc go ba : Int → Int} (ok : okP g b) (hr : RwA g b sc go ba) {x1 x2 w : Int} (h2 : x2 ≤ cn g b) (hw : rI w) : ∀ (f : Nat) (a y : Int), 0 ≤ y → y ≤ x2 → (x2 - y).toNat < f → m_X13_of_b6 N go ba x1 x2 w f a y = some (a + (wh w (cG g b) (cB g b) x2 - wh w (cG g b) (cB g b) y)) := by
  intro f
  have ok2 := ok.2.1
  induction f with
  | zero => intro a y _ _ h; omega
  | succ f ih =>
    intro a y h0 h1 hf
    rw [m_X13_of_b6]
    by_cases c1 : x2 ≤ y
    · have : y = x2 := by omega
      subst this
      refine gd_ok (by first | omega | (constructor <;> omega) | assumption) ?_
      refine gd_ok (by first | omega | (constructor <;> omega) | assumption) ?_
      refine ip_ok (c1) ?_
      congr 1
      omega
    · have hin := hr.in_ ok h0 (by omega)
      obtain ⟨-, e2, e3⟩ := hr y h0 (by omega)
      have i1 := cG_s (g := g) (b := b) h0
      have i2 := cB_s (g := g) (b := b) h0
      have ih1 := ih
      unfold wh at ih ⊢
      by_cases w0 : w = 0
      · subst w0
        refine gd_ok (by first | omega | (constructor <;> omega) | assumption) ?_
        refine gd_ok (by first | omega | (constructor <;> omega) | assumption) ?_
        refine in_ok (c1) ?_
        refine gd_ok (by first | omega | (constructor <;> omega) | assumption) ?_
        refine ip_ok (rfl) ?_
        refine gd_ok (by first | omega | (constructor <;> omega) | assumption) ?_
        refine gd_ok (by first | omega | (constructor <;> omega) | assumption) ?_
        rw [m_X13_of_b61, ih _ _ (by omega) (by omega) (by omega)]
        congr 1
        simp only [if_true]
        omega
      · by_cases w1 : w = 1
        · subst w1
          refine gd_ok (by first | omega | (constructor <;> omega) | assumption) ?_
          refine gd_ok (by first | omega | (constructor <;> omega) | assumption) ?_
          refine in_ok (c1) ?_
          refine gd_ok (by first | omega | (constructor <;> omega) | assumption) ?_
          refine in_ok (w0) ?_
          refine ip_ok (rfl) ?_
          refine gd_ok (by first | omega | (constructor <;> omega) | assumption) ?_
          refine gd_ok (by first | omega | (constructor <;> omega) | assumption) ?_
          rw [m_X13_of_b61, ih _ _ (by omega) (by omega) (by omega)]
          congr 1
          rw [if_neg w0, if_neg w0, if_neg w0, if_pos rfl, if_pos rfl, if_pos rfl]
          omega
        · refine gd_ok (by first | omega | (constructor <;> omega) | assumption) ?_
          refine gd_ok (by first | omega | (constructor <;> omega) | assumption) ?_
          refine in_ok (c1) ?_
          refine gd_ok (by first | omega | (constructor <;> omega) | assumption) ?_
          refine in_ok (w0) ?_
          refine in_ok (w1) ?_
          refine gd_ok (by first | omega | (constructor <;> omega) | assumption) ?_
          refine gd_ok (by first | omega | (constructor <;> omega) | assumption) ?_
          rw [m_X13_of_b61, ih _ _ (by omega) (by omega) (by omega)]
          congr 1
          rw [if_neg w0, if_neg w0, if_neg w0, if_neg w1, if_neg w1, if_neg w1]
          omega
theorem of_ok {N : Nat} (hN : 40000 ≤ N) {g b sc go ba : Int → Int} (ok : okP g b) (hr : RwA g b sc go ba) {x1 x2 w : Int} (h1 : 0 ≤ x1 ∧ x1 ≤ x2) (h2 : x2 ≤ cn g b) (hw : rI w) : m_X13_of N go ba x1 x2 w = some (wh w (cG g b) (cB g b) x2 - wh w (cG g b) (cB g b) x1) := by
  have ok2 := ok.2.1
  rw [m_X13_of, of_b6_ok ok hr h2 hw N 0 x1 h1.1 h1.2 (by omega), Int.zero_add]
