/-! the best two cuts -/
def Bst (K : Int → Int → Int) (n i j : Int) : Prop := (0 ≤ i ∧ i ≤ j ∧ j ≤ n) ∧ ∀ i' j', 0 ≤ i' → i' ≤ j' → j' ≤ n → K i j < K i' j' ∨ (K i j = K i' j' ∧ (i < i' ∨ (i = i' ∧ j ≤ j')))
theorem Bst.uniq {K : Int → Int → Int} {n i j i' j' : Int} (h : Bst K n i j) (h' : Bst K n i' j') : i = i' ∧ j = j' := by
  have a := h.2 i' j' h'.1.1 h'.1.2.1 h'.1.2.2
  have b := h'.2 i j h.1.1 h.1.2.1 h.1.2.2
  omega
section
variable {N : Nat} {g b : Int → Int}
theorem cutB_mono {i j : Int} (h0 : 0 ≤ i) (hij : i ≤ j) (hj : j ≤ cn g b) : cutB g b i ≤ cutB g b j := by
  have e := lb_cutB (g := g) (b := b) (i := j) ⟨by omega, hj⟩
  exact cutB_le (cutB_in ⟨by omega, hj⟩) h0 (by omega)
theorem Bst_lb {K : Int → Int → Int} {i j : Int} (h : Bst K (cn g b) i j) : Bst (fun c d => K (lb g b c) (lb g b d)) 1000 (cutB g b i) (cutB g b j) := by
  obtain ⟨⟨h0, h1, h2⟩, hK⟩ := h
  have e1 := lb_cutB (g := g) (b := b) (i := i) ⟨h0, by omega⟩
  have e2 := lb_cutB (g := g) (b := b) (i := j) ⟨by omega, h2⟩
  have c1 := cutB_in (g := g) (b := b) (i := i) ⟨h0, by omega⟩
  have c2 := cutB_in (g := g) (b := b) (i := j) ⟨by omega, h2⟩
  refine ⟨⟨c1.1, cutB_mono h0 h1 h2, c2.2⟩, fun c d c0 cd d1 => ?_⟩
  show K (lb g b (cutB g b i)) (lb g b (cutB g b j)) < K (lb g b c) (lb g b d) ∨ (K (lb g b (cutB g b i)) (lb g b (cutB g b j)) = K (lb g b c) (lb g b d) ∧ (cutB g b i < c ∨ (cutB g b i = c ∧ cutB g b j ≤ d)))
  have l1 := lb_in (g := g) (b := b) (c := c) (by omega)
  have l2 := lb_in (g := g) (b := b) (c := d) d1
  rw [e1, e2]
  rcases hK (lb g b c) (lb g b d) l1.1 (lb_mono cd) l2.2 with a | ⟨a, a2⟩
  · exact Or.inl a
  · refine Or.inr ⟨a, ?_⟩
    have q1 := cutB_le (g := g) (b := b) (c := c) (i := i) ⟨c0, by omega⟩ h0 (by omega)
    by_cases z : cutB g b i = c
    · have z2 : i = lb g b c := by rw [← z]; exact e1.symm
      exact Or.inr ⟨z, cutB_le ⟨by omega, d1⟩ (by omega) (by omega)⟩
    · exact Or.inl (by omega)
def twA (g b : Int → Int) (gc rc i : Int) : Int := gc * cG g b i - rc * (cG g b i + cB g b i)
def twU (g b : Int → Int) (bc rc j : Int) : Int := rc * (cG g b j + cB g b j) + bc * (cB g b (cn g b) - cB g b j)
theorem tw_k (gc bc rc i j : Int) : twA g b gc rc i + twU g b bc rc j = kst g b gc bc rc i j := by
  unfold twA twU kst
  have e : cG g b j - cG g b i + cB g b j - cB g b i = (cG g b j + cB g b j) - (cG g b i + cB g b i) := by omega
  rw [e, Int.mul_sub rc]
  omega
theorem tw_b (ok : okP g b) {gc bc rc i : Int} (hgc : 0 ≤ gc ∧ gc ≤ 999) (hbc : 0 ≤ bc ∧ bc ≤ 999) (hrc : 0 ≤ rc ∧ rc ≤ 999) (h0 : 0 ≤ i) (hi : i ≤ cn g b) : (-12000000 ≤ twA g b gc rc i ∧ twA g b gc rc i ≤ 12000000) ∧ 0 ≤ twU g b bc rc i ∧ twU g b bc rc i ≤ 24000000 := by
  have b1 := cG_b ok h0 hi
  have b3 := cG_b ok (cn_0 g b) (Int.le_refl _)
  have m2 := cB_m ok h0 hi (Int.le_refl _)
  have p1 := mul_bd (a := gc) (b := cG g b i) (A := 999) (B := 11880) hgc (by omega)
  have p2 := mul_bd (a := rc) (b := cG g b i + cB g b i) (A := 999) (B := 11880) hrc (by omega)
  have p3 := mul_bd (a := bc) (b := cB g b (cn g b) - cB g b i) (A := 999) (B := 11880) hbc (by omega)
  unfold twA twU
  omega
theorem fromUpper_ok (ok : okP g b) {gA bA : Int → Int} (h : AhA g b gA bA) {bc rc i : Int} (h0 : 0 ≤ i) (hi : i ≤ cn g b) : m_X11_fromUpper N (cn g b) gA bA bc rc i = some (twU g b bc rc i) := by
  have ok2 := ok.2.1
  rw [m_X11_fromUpper, (h i h0 hi).2]
  repeat (first | (with_reducible refine gd_ok ?_ ?_; focus (first | omega | assumption | ((repeat' refine And.intro ?_ ?_) <;> first | omega | assumption) | fail)) | (with_reducible refine ip_ok ?_ ?_; focus (first | omega | assumption | ((repeat' refine And.intro ?_ ?_) <;> first | omega | assumption) | fail)) | (with_reducible refine in_ok ?_ ?_; focus (first | omega | assumption | ((repeat' refine And.intro ?_ ?_) <;> first | omega | assumption) | fail)) | (rw [casesAhead_ok ok h h0 hi, so_bd]; try dsimp only) | (rw [bads_ok ok h, so_bd]; try dsimp only) | (rw [so_bd]; try dsimp only))
  all_goals rfl
theorem fromLower_ok (ok : okP g b) {gA bA : Int → Int} (h : AhA g b gA bA) {gc rc i : Int} (h0 : 0 ≤ i) (hi : i ≤ cn g b) : m_X11_fromLower N gA bA gc rc i = some (twA g b gc rc i) := by
  have ok2 := ok.2.1
  rw [m_X11_fromLower, (h i h0 hi).1]
  repeat (first | (with_reducible refine gd_ok ?_ ?_; focus (first | omega | assumption | ((repeat' refine And.intro ?_ ?_) <;> first | omega | assumption) | fail)) | (with_reducible refine ip_ok ?_ ?_; focus (first | omega | assumption | ((repeat' refine And.intro ?_ ?_) <;> first | omega | assumption) | fail)) | (with_reducible refine in_ok ?_ ?_; focus (first | omega | assumption | ((repeat' refine And.intro ?_ ?_) <;> first | omega | assumption) | fail)) | (rw [casesAhead_ok ok h h0 hi, so_bd]; try dsimp only) | (rw [so_bd]; try dsimp only))
  all_goals rfl
def twI (A U : Int → Int) (n lo y3 y4 y5 : Int) : Prop := (lo ≤ y5 ∧ y5 ≤ n ∧ ∀ j, lo ≤ j → j ≤ n → U y5 ≤ U j ∧ (j < y5 → U y5 < U j)) ∧ (lo ≤ y3 ∧ y3 ≤ y4 ∧ y4 ≤ n) ∧ ∀ i j, lo ≤ i → i ≤ j → j ≤ n → A y3 + U y4 < A i + U j ∨ (A y3 + U y4 = A i + U j ∧ (y3 < i ∨ (y3 = i ∧ y4 ≤ j)))
theorem twI_up {A U : Int → Int} {n lo y3 y4 y5 y6 : Int} (h : twI A U n lo y3 y4 y5) (hlo : lo = y6 ∨ lo = y6 + 1) (h6 : y6 ≤ n) (c : U y5 < U y6) : (y6 ≤ y5 ∧ y5 ≤ n ∧ ∀ j, y6 ≤ j → j ≤ n → U y5 ≤ U j ∧ (j < y5 → U y5 < U j)) := by
  obtain ⟨⟨a1, a2, a3⟩, -, -⟩ := h
  refine ⟨by omega, a2, fun j j0 j1 => ?_⟩
  by_cases e : j = y6
  · rw [e]; exact ⟨by omega, fun _ => c⟩
  · exact a3 j (by omega) j1
theorem twI_up' {A U : Int → Int} {n lo y3 y4 y5 y6 : Int} (h : twI A U n lo y3 y4 y5) (hlo : lo = y6 ∨ lo = y6 + 1) (h6 : y6 ≤ n) (c : ¬ U y5 < U y6) : (y6 ≤ y6 ∧ y6 ≤ n ∧ ∀ j, y6 ≤ j → j ≤ n → U y6 ≤ U j ∧ (j < y6 → U y6 < U j)) := by
  obtain ⟨⟨a1, a2, a3⟩, -, -⟩ := h
  refine ⟨Int.le_refl _, h6, fun j j0 j1 => ⟨?_, fun _ => by omega⟩⟩
  by_cases e : j = y6
  · rw [e]; exact Int.le_refl _
  · have := (a3 j (by omega) j1).1
    omega
theorem twI_lo {A U : Int → Int} {n lo y3 y4 y5 y6 z : Int} (h : twI A U n lo y3 y4 y5) (hlo : lo = y6 ∨ lo = y6 + 1) (h6 : y6 ≤ n) (hz : (y6 ≤ z ∧ z ≤ n ∧ ∀ j, y6 ≤ j → j ≤ n → U z ≤ U j ∧ (j < z → U z < U j))) (c : A y3 + U y4 < A y6 + U z) : twI A U n y6 y3 y4 z := by
  obtain ⟨-, b1, b2⟩ := h
  refine ⟨hz, ⟨by omega, b1.2⟩, fun i j i0 ij j1 => ?_⟩
  by_cases e : i = y6
  · have := (hz.2.2 j (by omega) j1).1
    rw [e]
    left; omega
  · exact b2 i j (by omega) ij j1
theorem twI_lo' {A U : Int → Int} {n lo y3 y4 y5 y6 z : Int} (h : twI A U n lo y3 y4 y5) (hlo : lo = y6 ∨ lo = y6 + 1) (h6 : y6 ≤ n) (hz : (y6 ≤ z ∧ z ≤ n ∧ ∀ j, y6 ≤ j → j ≤ n → U z ≤ U j ∧ (j < z → U z < U j))) (c : ¬ A y3 + U y4 < A y6 + U z) : twI A U n y6 y6 z z := by
  obtain ⟨-, b1, b2⟩ := h
  refine ⟨hz, ⟨Int.le_refl _, hz.1, hz.2.1⟩, fun i j i0 ij j1 => ?_⟩
  by_cases e : i = y6
  · have := hz.2.2 j (by omega) j1
    rw [e]
    by_cases d : j < z
    · left
      have := this.2 d
      omega
    · omega
  · have := b2 i j (by omega) ij j1
    omega
theorem seek_b23_ok (ok : okP g b) {sc go ba gA bA : Int → Int} (hr : RwA g b sc go ba) (h : AhA g b gA bA) {gc bc rc l u t : Int} (hgc : 0 ≤ gc ∧ gc ≤ 999) (hbc : 0 ≤ bc ∧ bc ≤ 999) (hrc : 0 ≤ rc ∧ rc ≤ 999) : ∀ (f : Nat) (lo y3 y4 y5 y6 : Int), twI (twA g b gc rc) (twU g b bc rc) (cn g b) lo y3 y4 y5 → (lo = y6 + 1 ∨ lo = y6) → 0 ≤ lo → -1 ≤ y6 → y6 ≤ cn g b → (y6 + 1).toNat < f → ∃ i j, m_X11_seek_b23 N (cn g b) sc gA bA gc bc rc l u t f y3 y4 y5 y6 = some (cutB g b i, cutB g b j, kst g b gc bc rc i j) ∧ Bst (kst g b gc bc rc) (cn g b) i j := by
  have ok2 := ok.2.1
  intro f
  induction f with
  | zero => intro lo y3 y4 y5 y6 _ _ _ _ _ h; omega
  | succ f ih =>
    intro lo y3 y4 y5 y6 hI hlo l0 m1 m2 hf
    rw [m_X11_seek_b23]
    have hI' := hI
    obtain ⟨⟨a1, a2, a3⟩, ⟨b1, b2, b3⟩, b4⟩ := hI'
    by_cases c : y6 < 0
    · refine ⟨y3, y4, ?_, ⟨by omega, b2, b3⟩, fun i j i0 ij j1 => ?_⟩
      · repeat (first | (with_reducible refine gd_ok ?_ ?_; focus (first | omega | assumption | ((repeat' refine And.intro ?_ ?_) <;> first | omega | assumption) | fail)) | (with_reducible refine ip_ok ?_ ?_; focus (first | omega | assumption | ((repeat' refine And.intro ?_ ?_) <;> first | omega | assumption) | fail)) | (with_reducible refine in_ok ?_ ?_; focus (first | omega | assumption | ((repeat' refine And.intro ?_ ?_) <;> first | omega | assumption) | fail)) | (rw [cutBehind_ok ok hr (i := y3) (by omega) (by omega), so_bd]; try dsimp only) | (rw [cutBehind_ok ok hr (i := y4) (by omega) (by omega), so_bd]; try dsimp only) | (rw [fromLower_ok ok h (i := y3) (by omega) (by omega), so_bd]; try dsimp only) | (rw [fromUpper_ok ok h (i := y4) (by omega) (by omega), so_bd]; try dsimp only) | (rw [so_bd]; try dsimp only))
        rw [tw_k]
      · have := b4 i j (by omega) ij j1
        rw [tw_k, tw_k] at this
        exact this
    · have t5 := tw_b ok hgc hbc hrc (i := y5) (by omega) (by omega)
      have t6 := tw_b ok hgc hbc hrc (i := y6) (by omega) (by omega)
      have t3 := tw_b ok hgc hbc hrc (i := y3) (by omega) (by omega)
      have t4 := tw_b ok hgc hbc hrc (i := y4) (by omega) (by omega)
      by_cases d : twU g b bc rc y5 < twU g b bc rc y6
      · have hz := twI_up hI (by omega) m2 d
        by_cases e : twA g b gc rc y3 + twU g b bc rc y4 < twA g b gc rc y6 + twU g b bc rc y5
        · obtain ⟨i, j, q1, q2⟩ := ih y6 y3 y4 y5 (y6 + -1) (twI_lo hI (by omega) m2 hz e) (by omega) (by omega) (by omega) (by omega) (by omega)
          refine ⟨i, j, ?_, q2⟩
          repeat (first | (with_reducible refine gd_ok ?_ ?_; focus (first | omega | assumption | ((repeat' refine And.intro ?_ ?_) <;> first | omega | assumption) | fail)) | (with_reducible refine ip_ok ?_ ?_; focus (first | omega | assumption | ((repeat' refine And.intro ?_ ?_) <;> first | omega | assumption) | fail)) | (with_reducible refine in_ok ?_ ?_; focus (first | omega | assumption | ((repeat' refine And.intro ?_ ?_) <;> first | omega | assumption) | fail)) | (rw [fromUpper_ok ok h (i := y6) (by omega) (by omega), so_bd]; try dsimp only) | (rw [fromUpper_ok ok h (i := y5) (by omega) (by omega), so_bd]; try dsimp only) | (rw [so_bd]; try dsimp only))
          rw [m_X11_seek_b49]
          repeat (first | (with_reducible refine gd_ok ?_ ?_; focus (first | omega | assumption | ((repeat' refine And.intro ?_ ?_) <;> first | omega | assumption) | fail)) | (with_reducible refine ip_ok ?_ ?_; focus (first | omega | assumption | ((repeat' refine And.intro ?_ ?_) <;> first | omega | assumption) | fail)) | (with_reducible refine in_ok ?_ ?_; focus (first | omega | assumption | ((repeat' refine And.intro ?_ ?_) <;> first | omega | assumption) | fail)) | (rw [fromLower_ok ok h (i := y6) (by omega) (by omega), so_bd]; try dsimp only) | (rw [fromUpper_ok ok h (i := y5) (by omega) (by omega), so_bd]; try dsimp only) | (rw [fromLower_ok ok h (i := y3) (by omega) (by omega), so_bd]; try dsimp only) | (rw [fromUpper_ok ok h (i := y4) (by omega) (by omega), so_bd]; try dsimp only) | (rw [so_bd]; try dsimp only))
          exact q1
        · obtain ⟨i, j, q1, q2⟩ := ih y6 y6 y5 y5 (y6 + -1) (twI_lo' hI (by omega) m2 hz e) (by omega) (by omega) (by omega) (by omega) (by omega)
          refine ⟨i, j, ?_, q2⟩
          repeat (first | (with_reducible refine gd_ok ?_ ?_; focus (first | omega | assumption | ((repeat' refine And.intro ?_ ?_) <;> first | omega | assumption) | fail)) | (with_reducible refine ip_ok ?_ ?_; focus (first | omega | assumption | ((repeat' refine And.intro ?_ ?_) <;> first | omega | assumption) | fail)) | (with_reducible refine in_ok ?_ ?_; focus (first | omega | assumption | ((repeat' refine And.intro ?_ ?_) <;> first | omega | assumption) | fail)) | (rw [fromUpper_ok ok h (i := y6) (by omega) (by omega), so_bd]; try dsimp only) | (rw [fromUpper_ok ok h (i := y5) (by omega) (by omega), so_bd]; try dsimp only) | (rw [so_bd]; try dsimp only))
          rw [m_X11_seek_b49]
          repeat (first | (with_reducible refine gd_ok ?_ ?_; focus (first | omega | assumption | ((repeat' refine And.intro ?_ ?_) <;> first | omega | assumption) | fail)) | (with_reducible refine ip_ok ?_ ?_; focus (first | omega | assumption | ((repeat' refine And.intro ?_ ?_) <;> first | omega | assumption) | fail)) | (with_reducible refine in_ok ?_ ?_; focus (first | omega | assumption | ((repeat' refine And.intro ?_ ?_) <;> first | omega | assumption) | fail)) | (rw [fromLower_ok ok h (i := y6) (by omega) (by omega), so_bd]; try dsimp only) | (rw [fromUpper_ok ok h (i := y5) (by omega) (by omega), so_bd]; try dsimp only) | (rw [fromLower_ok ok h (i := y3) (by omega) (by omega), so_bd]; try dsimp only) | (rw [fromUpper_ok ok h (i := y4) (by omega) (by omega), so_bd]; try dsimp only) | (rw [so_bd]; try dsimp only))
          exact q1
      · have hz := twI_up' hI (by omega) m2 d
        by_cases e : twA g b gc rc y3 + twU g b bc rc y4 < twA g b gc rc y6 + twU g b bc rc y6
        · obtain ⟨i, j, q1, q2⟩ := ih y6 y3 y4 y6 (y6 + -1) (twI_lo hI (by omega) m2 hz e) (by omega) (by omega) (by omega) (by omega) (by omega)
          refine ⟨i, j, ?_, q2⟩
          repeat (first | (with_reducible refine gd_ok ?_ ?_; focus (first | omega | assumption | ((repeat' refine And.intro ?_ ?_) <;> first | omega | assumption) | fail)) | (with_reducible refine ip_ok ?_ ?_; focus (first | omega | assumption | ((repeat' refine And.intro ?_ ?_) <;> first | omega | assumption) | fail)) | (with_reducible refine in_ok ?_ ?_; focus (first | omega | assumption | ((repeat' refine And.intro ?_ ?_) <;> first | omega | assumption) | fail)) | (rw [fromUpper_ok ok h (i := y6) (by omega) (by omega), so_bd]; try dsimp only) | (rw [fromUpper_ok ok h (i := y5) (by omega) (by omega), so_bd]; try dsimp only) | (rw [so_bd]; try dsimp only))
          rw [m_X11_seek_b49]
          repeat (first | (with_reducible refine gd_ok ?_ ?_; focus (first | omega | assumption | ((repeat' refine And.intro ?_ ?_) <;> first | omega | assumption) | fail)) | (with_reducible refine ip_ok ?_ ?_; focus (first | omega | assumption | ((repeat' refine And.intro ?_ ?_) <;> first | omega | assumption) | fail)) | (with_reducible refine in_ok ?_ ?_; focus (first | omega | assumption | ((repeat' refine And.intro ?_ ?_) <;> first | omega | assumption) | fail)) | (rw [fromLower_ok ok h (i := y6) (by omega) (by omega), so_bd]; try dsimp only) | (rw [fromUpper_ok ok h (i := y6) (by omega) (by omega), so_bd]; try dsimp only) | (rw [fromLower_ok ok h (i := y3) (by omega) (by omega), so_bd]; try dsimp only) | (rw [fromUpper_ok ok h (i := y4) (by omega) (by omega), so_bd]; try dsimp only) | (rw [so_bd]; try dsimp only))
          exact q1
        · obtain ⟨i, j, q1, q2⟩ := ih y6 y6 y6 y6 (y6 + -1) (twI_lo' hI (by omega) m2 hz e) (by omega) (by omega) (by omega) (by omega) (by omega)
          refine ⟨i, j, ?_, q2⟩
          repeat (first | (with_reducible refine gd_ok ?_ ?_; focus (first | omega | assumption | ((repeat' refine And.intro ?_ ?_) <;> first | omega | assumption) | fail)) | (with_reducible refine ip_ok ?_ ?_; focus (first | omega | assumption | ((repeat' refine And.intro ?_ ?_) <;> first | omega | assumption) | fail)) | (with_reducible refine in_ok ?_ ?_; focus (first | omega | assumption | ((repeat' refine And.intro ?_ ?_) <;> first | omega | assumption) | fail)) | (rw [fromUpper_ok ok h (i := y6) (by omega) (by omega), so_bd]; try dsimp only) | (rw [fromUpper_ok ok h (i := y5) (by omega) (by omega), so_bd]; try dsimp only) | (rw [so_bd]; try dsimp only))
          rw [m_X11_seek_b49]
          repeat (first | (with_reducible refine gd_ok ?_ ?_; focus (first | omega | assumption | ((repeat' refine And.intro ?_ ?_) <;> first | omega | assumption) | fail)) | (with_reducible refine ip_ok ?_ ?_; focus (first | omega | assumption | ((repeat' refine And.intro ?_ ?_) <;> first | omega | assumption) | fail)) | (with_reducible refine in_ok ?_ ?_; focus (first | omega | assumption | ((repeat' refine And.intro ?_ ?_) <;> first | omega | assumption) | fail)) | (rw [fromLower_ok ok h (i := y6) (by omega) (by omega), so_bd]; try dsimp only) | (rw [fromUpper_ok ok h (i := y6) (by omega) (by omega), so_bd]; try dsimp only) | (rw [fromLower_ok ok h (i := y3) (by omega) (by omega), so_bd]; try dsimp only) | (rw [fromUpper_ok ok h (i := y4) (by omega) (by omega), so_bd]; try dsimp only) | (rw [so_bd]; try dsimp only))
          exact q1
theorem seek_ok (hN : 40000 ≤ N) (ok : okP g b) {sc go ba gA bA : Int → Int} (hr : RwA g b sc go ba) (h : AhA g b gA bA) {gc bc rc l u t : Int} (hgc : 0 ≤ gc ∧ gc ≤ 999) (hbc : 0 ≤ bc ∧ bc ≤ 999) (hrc : 0 ≤ rc ∧ rc ≤ 999) : ∃ i j, m_X11_seek N (cn g b) sc gA bA gc bc rc l u t = some (cutB g b i, cutB g b j, kst g b gc bc rc i j) ∧ Bst (kst g b gc bc rc) (cn g b) i j := by
  have ok2 := ok.2.1
  have n0 := cn_0 g b
  refine seek_b23_ok ok hr h hgc hbc hrc N (cn g b) (cn g b) (cn g b) (cn g b) (cn g b) ⟨⟨Int.le_refl _, Int.le_refl _, fun j j0 j1 => ?_⟩, ⟨Int.le_refl _, Int.le_refl _, Int.le_refl _⟩, fun i j i0 ij j1 => ?_⟩ (by omega) n0 (by omega) (Int.le_refl _) (by omega)
  · have e : j = cn g b := by omega
    rw [e]
    exact ⟨Int.le_refl _, fun q => by omega⟩
  · have e : j = cn g b := by omega
    have e2 : i = cn g b := by omega
    rw [e, e2]
    exact Or.inr ⟨rfl, Or.inr ⟨rfl, Int.le_refl _⟩⟩
end
