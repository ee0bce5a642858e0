/-! SPLIT: the least error of so many runs, and where the last begins -/
def eO (g b : Int → Int) (s j : Int) : UInt64 := qd ((cG g b j - cG g b s) * (cB g b j - cB g b s)) ((cG g b j - cG g b s) + (cB g b j - cB g b s))
def pkS (h : Int → UInt64) (a : Int) : Nat → Int × UInt64
  | 0 => (a, h a)
  | n + 1 => if 0 ≤ dcV (h (a + (n : Int) + 1)) (pkS h a n).2 .g then pkS h a n else (a + (n : Int) + 1, h (a + (n : Int) + 1))
def sD (g b : Int → Int) : Nat → Int → Int × UInt64
  | 0, j => (0, eO g b 0 j)
  | r + 1, j => pkS (fun s => FP.dadd (sD g b r s).2 (eO g b s j)) ((r : Int) + 1) (j - 1 - ((r : Int) + 1)).toNat
theorem pkS_p {h : Int → UInt64} {a : Int} {P : Int → UInt64 → Prop} : ∀ n : Nat, (∀ s, a ≤ s → s ≤ a + (n : Int) → P s (h s)) → P (pkS h a n).1 (pkS h a n).2 ∧ a ≤ (pkS h a n).1 ∧ (pkS h a n).1 ≤ a + (n : Int) := by
  intro n
  induction n with
  | zero => intro hp; exact ⟨hp a (Int.le_refl _) (by omega), Int.le_refl _, by show a ≤ a + 0; omega⟩
  | succ n ih =>
    intro hp
    obtain ⟨i1, i2, i3⟩ := ih (fun s h1 h2 => hp s h1 (by omega))
    rw [pkS]
    by_cases c : 0 ≤ dcV (h (a + (n : Int) + 1)) (pkS h a n).2 .g
    · rw [if_pos c]; exact ⟨i1, i2, by omega⟩
    · rw [if_neg c]; exact ⟨hp _ (by omega) (by omega), by show a ≤ a + (n : Int) + 1; omega, by show a + (n : Int) + 1 ≤ _; omega⟩
section
variable {N : Nat} {g b : Int → Int}
theorem eO_in (ok : okP g b) {s j : Int} (h0 : 0 ≤ s) (hs : s < j) (hj : j ≤ cn g b) : (0 ≤ cG g b j - cG g b s ∧ cG g b j - cG g b s ≤ 11880) ∧ (0 ≤ cB g b j - cB g b s ∧ cB g b j - cB g b s ≤ 11880) ∧ (1 ≤ (cG g b j - cG g b s) + (cB g b j - cB g b s) ∧ (cG g b j - cG g b s) + (cB g b j - cB g b s) ≤ 11880) ∧ (0 ≤ (cG g b j - cG g b s) * (cB g b j - cB g b s) ∧ (cG g b j - cG g b s) * (cB g b j - cB g b s) ≤ 141134400) := by
  have a1 := cG_m ok h0 (Int.le_of_lt hs) hj
  have a2 := cB_m ok h0 (Int.le_of_lt hs) hj
  have a3 := cG_b ok (i := j) (by omega) hj
  have a4 := cG_b ok (i := s) h0 (by omega)
  have a5 := cC_d (g := g) (b := b) h0 (Int.le_of_lt hs) hj
  have m1 := mul_bd (a := cG g b j - cG g b s) (b := cB g b j - cB g b s) (A := 11880) (B := 11880) (by omega) (by omega)
  omega
theorem eO_g (ok : okP g b) {s j : Int} (h0 : 0 ≤ s) (hs : s < j) (hj : j ≤ cn g b) : gD 958 1089 (eO g b s j) := by
  obtain ⟨a1, a2, a3, a4⟩ := eO_in ok h0 hs hj
  exact qd_g a4.1 a3.1 ⟨by omega, by omega⟩ ⟨by omega, by omega⟩
theorem sD_g (ok : okP g b) : ∀ (r : Nat) (j : Int), (r : Int) < j → j ≤ cn g b → gD 958 (1089 + 2 * r) (sD g b r j).2 ∧ (r : Int) ≤ (sD g b r j).1 ∧ (sD g b r j).1 < j := by
  have ok2 := ok.2.1
  intro r
  induction r with
  | zero => intro j h1 h2; exact ⟨eO_g ok (Int.le_refl 0) (by omega) h2, Int.le_refl _, by show 0 < j; omega⟩
  | succ r ih =>
    intro j h1 h2
    have := pkS_p (h := fun s => FP.dadd (sD g b r s).2 (eO g b s j)) (a := (r : Int) + 1) (P := fun _ x => gD 958 (1089 + 2 * (r + 1)) x) (j - 1 - ((r : Int) + 1)).toNat (fun s s1 s2 => by
      have e1 := (ih s (by omega) (by omega)).1
      have e2 := (eO_g ok (s := s) (by omega) (show s < j by omega) h2).mono (lo' := 958) (hi' := 1089 + 2 * r) (by decide) (by omega)
      exact (dadd_gD e1 e2 (by decide) (show 1089 + 2 * r ≤ 2047 by omega)).mono (Nat.le_refl _) (by omega))
    rw [sD]
    exact ⟨this.1, by omega, by omega⟩
theorem sD_z (ok : okP g b) {r : Nat} {j : Int} (h1 : (r : Int) < j) (h2 : j ≤ cn g b) : gZ (sD g b r j).2 := by
  have ok2 := ok.2.1
  exact (sD_g ok r j h1 h2).1.z (by decide) (by omega)
theorem st_z (ok : okP g b) {r : Nat} {s j : Int} (h1 : (r : Int) < s) (hs : s < j) (h2 : j ≤ cn g b) : gZ (FP.dadd (sD g b r s).2 (eO g b s j)) := by
  have ok2 := ok.2.1
  have e1 := (sD_g ok r s h1 (by omega)).1
  have e2 := (eO_g ok (s := s) (by omega) hs h2).mono (lo' := 958) (hi' := 1089 + 2 * r) (by decide) (by omega)
  exact (dadd_gD e1 e2 (by decide) (show 1089 + 2 * r ≤ 2047 by omega)).z (by decide) (by omega)
theorem runError_ok (ok : okP g b) {gA bA : Int → Int} (hA : AhA g b gA bA) {s j : Int} (h0 : 0 ≤ s) (hs : s < j) (hj : j ≤ cn g b) : m_X10_runError N gA bA s j = some (eO g b s j) := by
  have ok2 := ok.2.1
  obtain ⟨a1, a2, a3, a4⟩ := eO_in ok h0 hs hj
  have e1 := hA j (by omega) hj
  have e2 := hA s h0 (by omega)
  rw [m_X10_runError, e1.1, e1.2, e2.1, e2.2]
  refine gd_ok (by first | omega | (constructor <;> omega) | assumption) ?_
  refine gd_ok (by first | omega | (constructor <;> omega) | assumption) ?_
  refine gd_ok (by first | omega | (constructor <;> omega) | assumption) ?_
  refine gd_ok (by first | omega | (constructor <;> omega) | assumption) ?_
  refine bd_ok (quo_ok a4.1 a3.1 ⟨by omega, by omega⟩ ⟨by omega, by omega⟩) ?_
  rfl
theorem errorOf_ok (hN : 40000 ≤ N) (ok : okP g b) {sc go ba : Int → Int} (hr : RwA g b sc go ba) {s j : Int} (h0 : 0 ≤ s) (hs : s < j) (hj : j ≤ cn g b) : m_X13_errorOf N go ba s j = some (eO g b s j) := by
  have z := (eO_g ok h0 hs hj).z (by decide) (by decide)
  have e2 : (cG g b j + cB g b j) - (cG g b s + cB g b s) = (cG g b j - cG g b s) + (cB g b j - cB g b s) := by omega
  have o2 := of2 hN ok hr ⟨h0, Int.le_of_lt hs⟩ hj
  rw [e2] at o2
  rw [m_X13_errorOf]
  refine bd_ok (of0 hN ok hr ⟨h0, Int.le_of_lt hs⟩ hj) ?_
  refine bd_ok (of1 hN ok hr ⟨h0, Int.le_of_lt hs⟩ hj) ?_
  refine bd_ok (o2) ?_
  exact gd_ok z.nn rfl
/-! the class's tables -/
theorem tell_b59 (hN : 40000 ≤ N) (ok : okP g b) {gA bA : Int → Int} (hA : AhA g b gA bA) {R j : Int} {r : Nat} (hR : R = (r : Int) + 2) (hj : R ≤ j ∧ j ≤ cn g b) {fe : Int → UInt64} (hf : ∀ s, R - 1 ≤ s → s < j → fe s = (sD g b r s).2) {be : Int → Int} {to : Int → UInt64} : ∀ (f n : Nat) (y3 : Int) (y4 : UInt64) (y6 : Int), y6 = R + (n : Int) → y6 ≤ j → y3 = (pkS (fun s => FP.dadd (sD g b r s).2 (eO g b s j)) ((r : Int) + 1) n).1 → y4 = (pkS (fun s => FP.dadd (sD g b r s).2 (eO g b s j)) ((r : Int) + 1) n).2 → (j - y6).toNat < f → m_X10_tellFor_b59 N R fe gA bA j be to f y3 y4 y6 = some (uP be (R * 61 + j) (sD g b (r + 1) j).1, uP to j (sD g b (r + 1) j).2) := by
  have ok2 := ok.2.1
  intro f
  induction f with
  | zero => intro n y3 y4 y6 _ _ _ _ h; omega
  | succ f ih =>
    intro n y3 y4 y6 h1 h2 h3 h4 hf'
    rw [m_X10_tellFor_b59]
    by_cases c : j ≤ y6
    · have e : (j - 1 - ((r : Int) + 1)).toNat = n := by omega
      rw [sD, e, ← h3, ← h4]
      refine gd_ok (by first | omega | (constructor <;> omega) | assumption) ?_
      refine gd_ok (by first | omega | (constructor <;> omega) | assumption) ?_
      refine ip_ok (by first | omega | (constructor <;> omega) | assumption) ?_
      refine gd_ok (by first | omega | (constructor <;> omega) | assumption) ?_
      refine gd_ok (by first | omega | (constructor <;> omega) | assumption) ?_
      rfl
    · have ef := hf y6 (by omega) (by omega)
      have z := st_z ok (r := r) (s := y6) (j := j) (by omega) (by omega) hj.2
      have ey : ((r : Int) + 1) + (n : Int) + 1 = y6 := by omega
      have hn : n64 (FP.dadd (fe y6) (eO g b y6 j)) := by rw [ef]; exact z.nn
      refine gd_ok (by first | omega | (constructor <;> omega) | assumption) ?_
      refine gd_ok (by first | omega | (constructor <;> omega) | assumption) ?_
      refine in_ok (by first | omega | (constructor <;> omega) | assumption) ?_
      refine gd_ok (by first | omega | (constructor <;> omega) | assumption) ?_
      refine bd_ok (runError_ok ok hA (by omega) (show y6 < j by omega) hj.2) ?_
      refine gd_ok hn ?_
      by_cases d : 0 ≤ dcV (FP.dadd (fe y6) (eO g b y6 j)) y4 .g
      · refine ip_ok d ?_
        rw [m_X10_tellFor_b97]
        refine ih (n + 1) y3 y4 (y6 + 1) (by omega) (by omega) ?_ ?_ (by omega)
        · rw [pkS, ey, ← h4, ← ef, if_pos d, h3]
        · rw [pkS, ey, ← h4, ← ef, if_pos d]; exact h4
      · refine in_ok d ?_
        rw [m_X10_tellFor_b97]
        refine ih (n + 1) y6 _ (y6 + 1) (by omega) (by omega) ?_ ?_ (by omega)
        · rw [pkS, ey, ← h4, ← ef, if_neg d]
        · rw [pkS, ey, ← h4, ← ef, if_neg d]
theorem tellFor_ok (hN : 40000 ≤ N) (ok : okP g b) {gA bA : Int → Int} (hA : AhA g b gA bA) {R j : Int} (hR : 1 ≤ R) (hj : R ≤ j ∧ j ≤ cn g b) {fe : Int → UInt64} (hf : 2 ≤ R → ∀ s, R - 1 ≤ s → s < j → fe s = (sD g b (R - 2).toNat s).2) {be : Int → Int} {to : Int → UInt64} : m_X10_tellFor N R fe gA bA be to j = some (uP be (R * 61 + j) (sD g b (R - 1).toNat j).1, uP to j (sD g b (R - 1).toNat j).2) := by
  have ok2 := ok.2.1
  rw [m_X10_tellFor]
  by_cases c : R = 1
  · subst c
    refine gd_ok (by first | omega | (constructor <;> omega) | assumption) ?_
    refine ip_ok (rfl) ?_
    refine bd_ok (runError_ok ok hA (Int.le_refl 0) (show 0 < j by omega) hj.2) ?_
    refine gd_ok (by first | omega | (constructor <;> omega) | assumption) ?_
    refine gd_ok (by first | omega | (constructor <;> omega) | assumption) ?_
    rfl
  · have hf' := hf (by omega)
    have ef := hf' (R - 1) (by omega) (by omega)
    have z := st_z ok (r := (R - 2).toNat) (s := R - 1) (j := j) (by omega) (by omega) hj.2
    have hn : n64 (FP.dadd (fe (R - 1)) (eO g b (R - 1) j)) := by rw [ef]; exact z.nn
    have e1 : (((R - 2).toNat : Nat) : Int) + 1 = R - 1 := by omega
    refine gd_ok (by first | omega | (constructor <;> omega) | assumption) ?_
    refine in_ok (c) ?_
    refine gd_ok (by first | omega | (constructor <;> omega) | assumption) ?_
    refine bd_ok (runError_ok ok hA (by omega) (show R - 1 < j by omega) hj.2) ?_
    refine gd_ok hn ?_
    rw [tell_b59 hN ok hA (r := (R - 2).toNat) (by omega) hj hf' N 0 _ _ R (by omega) hj.1 (by rw [pkS, e1]) (by rw [pkS, e1, ef]) (by omega), show (R - 2).toNat + 1 = (R - 1).toNat by omega]
end
