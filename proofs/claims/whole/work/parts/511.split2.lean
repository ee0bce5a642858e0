/-! how far SPLIT's tables are told -/
def SpR (g b : Int → Int) (runs : Int) (wh : Int → UInt64) (be : Int → Int) (to : Int → UInt64) : Prop := (0 ≤ runs ∧ runs ≤ cn g b) ∧ (∀ q s, 1 ≤ q → q ≤ runs → q ≤ s → s ≤ cn g b → be (q * 61 + s) = (sD g b (q - 1).toNat s).1) ∧ (1 ≤ runs → ∀ s, runs ≤ s → s ≤ cn g b → to s = (sD g b (runs - 1).toNat s).2) ∧ (∀ q, 1 ≤ q → q ≤ runs → wh q = (sD g b (q - 1).toNat (cn g b)).2)
theorem SpR.zero (g b : Int → Int) (wh : Int → UInt64) (be : Int → Int) (to : Int → UInt64) : SpR g b 0 wh be to := ⟨⟨Int.le_refl 0, cn_0 g b⟩, fun q s h1 h2 => by omega, fun h => by omega, fun q h1 h2 => by omega⟩
section
variable {N : Nat} {g b : Int → Int}
theorem reach_b53_ok (hN : 40000 ≤ N) (ok : okP g b) {gA bA : Int → Int} (hA : AhA g b gA bA) {R x2 : Int} (hR : 1 ≤ R ∧ R ≤ cn g b) {wh fe : Int → UInt64} {k0 : Int → (Int → UInt64) → (Int → Int) → (Int → UInt64) → (Int → UInt64) → Option (Int × (Int → UInt64) × (Int → Int) × (Int → UInt64) × (Int → UInt64))} (hf : 2 ≤ R → ∀ s, R - 1 ≤ s → s ≤ cn g b → fe s = (sD g b (R - 2).toNat s).2) : ∀ (f : Nat) (be : Int → Int) (to : Int → UInt64) (y : Int), R ≤ y → y ≤ cn g b + 1 → (∀ q s, 1 ≤ q → q < R → q ≤ s → s ≤ cn g b → be (q * 61 + s) = (sD g b (q - 1).toNat s).1) → (∀ s, R ≤ s → s < y → be (R * 61 + s) = (sD g b (R - 1).toNat s).1 ∧ to s = (sD g b (R - 1).toNat s).2) → (cn g b + 1 - y).toNat < f → ∃ be' to', m_X10_reach_b53 N (cn g b) gA bA x2 R wh k0 f be fe to y = k0 R (uP wh R (to' (cn g b))) be' fe to' ∧ (∀ q s, 1 ≤ q → q ≤ R → q ≤ s → s ≤ cn g b → be' (q * 61 + s) = (sD g b (q - 1).toNat s).1) ∧ (∀ s, R ≤ s → s ≤ cn g b → to' s = (sD g b (R - 1).toNat s).2) := by
  have ok2 := ok.2.1
  intro f
  induction f with
  | zero => intro be to y _ _ _ _ h; omega
  | succ f ih =>
    intro be to y h1 h2 h3 h4 hf'
    rw [m_X10_reach_b53]
    by_cases c : cn g b < y
    · refine ⟨be, to, ?_, fun q s q1 q2 s1 s2 => ?_, fun s s1 s2 => (h4 s s1 (by omega)).2⟩
      · refine gd_ok (by first | omega | (constructor <;> omega) | assumption) ?_
        refine gd_ok (by first | omega | (constructor <;> omega) | assumption) ?_
        refine ip_ok (c) ?_
        refine gd_ok (by first | omega | (constructor <;> omega) | assumption) ?_
        refine gd_ok (by first | omega | (constructor <;> omega) | assumption) ?_
        rfl
      · by_cases e : q = R
        · subst e; exact (h4 s s1 (by omega)).1
        · exact h3 q s q1 (by omega) s1 s2
    · have t := tellFor_ok hN ok hA hR.1 (j := y) ⟨h1, by omega⟩ (fe := fe) (fun r2 s s1 s2 => hf r2 s s1 (by omega)) (be := be) (to := to)
      obtain ⟨be', to', k1, k2, k3⟩ := ih (uP be (R * 61 + y) (sD g b (R - 1).toNat y).1) (uP to y (sD g b (R - 1).toNat y).2) (y + 1) (by omega) (by omega) (fun q s q1 q2 s1 s2 => by rw [uP_o _ _ (by omega)]; exact h3 q s q1 q2 s1 s2) (fun s s1 s2 => by
        by_cases e : s = y
        · subst e; rw [uP_s, uP_s]; exact ⟨rfl, rfl⟩
        · rw [uP_o _ _ (by omega), uP_o _ _ e]; exact h4 s s1 (by omega)) (by omega)
      refine ⟨be', to', ?_, k2, k3⟩
      rw [← k1]
      refine gd_ok (by first | omega | (constructor <;> omega) | assumption) ?_
      refine gd_ok (by first | omega | (constructor <;> omega) | assumption) ?_
      refine in_ok (c) ?_
      refine bd_ok (t) ?_
      rfl
theorem reach_b0_ok (hN : 40000 ≤ N) (ok : okP g b) {gA bA : Int → Int} (hA : AhA g b gA bA) {k : Int} (hk : 1 ≤ k ∧ k ≤ cn g b) : ∀ (f : Nat) (R : Int) (wh : Int → UInt64) (be : Int → Int) (fe to : Int → UInt64), SpR g b R wh be to → (cn g b - R).toNat < f → ∃ R' wh' be' fe' to', m_X10_reach_b0 N (cn g b) gA bA k f R wh be fe to = some (R', wh', be', fe', to') ∧ SpR g b R' wh' be' to' ∧ k ≤ R' := by
  have ok2 := ok.2.1
  intro f
  induction f with
  | zero => intro R wh be fe to _ h; omega
  | succ f ih =>
    intro R wh be fe to hS hf
    obtain ⟨h0, h1, h2, h3⟩ := id hS
    rw [m_X10_reach_b0]
    by_cases c : k ≤ R
    · refine ⟨R, wh, be, fe, to, ?_, hS, c⟩
      refine gd_ok (by first | omega | (constructor <;> omega) | assumption) ?_
      refine gd_ok (by first | omega | (constructor <;> omega) | assumption) ?_
      refine ip_ok (c) ?_
      rfl
    · obtain ⟨be', to', k1, k2, k3⟩ := reach_b53_ok hN ok hA (R := R + 1) (x2 := k) ⟨by omega, by omega⟩ (wh := wh) (fe := to) (k0 := m_X10_reach_b0 N (cn g b) gA bA k f) (fun r2 s s1 s2 => by
        have := h2 (by omega) s (by omega) s2
        rw [this, show (R + 1 - 2).toNat = (R - 1).toNat by omega]) N be fe (R + 1) (Int.le_refl _) (by omega) (fun q s q1 q2 s1 s2 => h1 q s q1 (by omega) s1 s2) (fun s s1 s2 => by omega) (by omega)
      have hS' : SpR g b (R + 1) (uP wh (R + 1) (to' (cn g b))) be' to' := by
        refine ⟨⟨by omega, by omega⟩, k2, fun _ => k3, fun q q1 q2 => ?_⟩
        by_cases e : q = R + 1
        · subst e; rw [uP_s]; exact k3 _ (by omega) (Int.le_refl _)
        · rw [uP_o _ _ e]; exact h3 q q1 (by omega)
      obtain ⟨R', wh', be2, fe', to2, m1, m2, m3⟩ := ih (R + 1) _ be' to to' hS' (by omega)
      refine ⟨R', wh', be2, fe', to2, ?_, m2, m3⟩
      rw [← m1, ← k1]
      refine gd_ok (by first | omega | (constructor <;> omega) | assumption) ?_
      refine gd_ok (by first | omega | (constructor <;> omega) | assumption) ?_
      refine in_ok (c) ?_
      refine gd_ok (by first | omega | (constructor <;> omega) | assumption) ?_
      refine in_ok (by first | omega | (constructor <;> omega) | assumption) ?_
      rfl
theorem upTo_ok (hN : 40000 ≤ N) (ok : okP g b) {gA bA : Int → Int} (hA : AhA g b gA bA) {k sp run : Int} (hk : 1 ≤ k ∧ k ≤ cn g b) {wh : Int → UInt64} {be : Int → Int} {fe to : Int → UInt64} (hS : ¬ sp = 0 → SpR g b run wh be to) : ∃ R' wh' be' fe' to', m_X12_splitsUpTo N (cn g b) gA bA sp run wh be fe to k = some (R', wh', be', fe', to') ∧ SpR g b R' wh' be' to' ∧ k ≤ R' := by
  have ok2 := ok.2.1
  have n0 := cn_0 g b
  rw [m_X12_splitsUpTo]
  by_cases c : sp = 0
  · rw [if_pos c, m_X10_init, so_bd, m_X10_reach]
    exact reach_b0_ok hN ok hA hk N 0 _ _ _ _ (SpR.zero g b _ _ _) (by omega)
  · rw [if_neg c, m_X10_reach]
    have h := hS c
    have h0 := h.1
    exact reach_b0_ok hN ok hA hk N run _ _ _ _ h (by omega)
/-! the reference's tables -/
def RfR (g b : Int → Int) (k : Int) (eb : Int → UInt64) (lb' : Int → Int) : Prop := ∀ q j, 1 ≤ q → q ≤ k → q ≤ j → j ≤ cn g b → eb (61 * j + q) = (sD g b (q - 1).toNat j).2 ∧ lb' (61 * j + q) = (sD g b (q - 1).toNat j).1
theorem lays_b73 (hN : 40000 ≤ N) (ok : okP g b) {sc go ba : Int → Int} (hr : RwA g b sc go ba) {x1 R j : Int} {r : Nat} (hR : R = (r : Int) + 2) (hj : R ≤ j ∧ j ≤ cn g b) {eb : Int → UInt64} {lb' : Int → Int} (hf : ∀ s, R - 1 ≤ s → s < j → eb (61 * s + (R - 1)) = (sD g b r s).2) {k47 k54 : (Int → UInt64) → (Int → Int) → Int → Option ((Int → UInt64) × (Int → Int))} : ∀ (f n : Nat) (y4 : Int) (y5 : UInt64) (y7 : Int), y7 = R + (n : Int) → y7 ≤ j → y4 = (pkS (fun s => FP.dadd (sD g b r s).2 (eO g b s j)) ((r : Int) + 1) n).1 → y5 = (pkS (fun s => FP.dadd (sD g b r s).2 (eO g b s j)) ((r : Int) + 1) n).2 → (j - y7).toNat < f → m_X13_laysSplit_b73 N (cn g b) go ba x1 R eb lb' j k47 k54 f y4 y5 y7 = k54 (uP eb (61 * j + R) (sD g b (r + 1) j).2) (uP lb' (61 * j + R) (sD g b (r + 1) j).1) (j + 1) := by
  have ok2 := ok.2.1
  intro f
  induction f with
  | zero => intro n y4 y5 y7 _ _ _ _ h; omega
  | succ f ih =>
    intro n y4 y5 y7 h1 h2 h3 h4 hf'
    rw [m_X13_laysSplit_b73]
    have hp := (pkS_p (h := fun s => FP.dadd (sD g b r s).2 (eO g b s j)) (a := (r : Int) + 1) (P := fun _ _ => True) n (fun _ _ _ => trivial)).2
    rw [← h3] at hp
    by_cases c : j ≤ y7
    · have e : (j - 1 - ((r : Int) + 1)).toNat = n := by omega
      rw [sD, e, ← h3, ← h4]
      refine gd_ok (by first | omega | (constructor <;> omega) | assumption) ?_
      refine gd_ok (by first | omega | (constructor <;> omega) | assumption) ?_
      refine ip_ok (by first | omega | (constructor <;> omega) | assumption) ?_
      refine gd_ok (by first | omega | (constructor <;> omega) | assumption) ?_
      rfl
    · have ef := hf y7 (by omega) (by omega)
      have ei : 61 * y7 + R - 1 = 61 * y7 + (R - 1) := by omega
      have z := st_z ok (r := r) (s := y7) (j := j) (by omega) (by omega) hj.2
      have ey : ((r : Int) + 1) + (n : Int) + 1 = y7 := by omega
      have hn : n64 (FP.dadd (eb (61 * y7 + (R - 1))) (eO g b y7 j)) := by rw [ef]; exact z.nn
      rw [ei]
      refine gd_ok (by first | omega | (constructor <;> omega) | assumption) ?_
      refine gd_ok (by first | omega | (constructor <;> omega) | assumption) ?_
      refine in_ok (by first | omega | (constructor <;> omega) | assumption) ?_
      refine gd_ok (by first | omega | (constructor <;> omega) | assumption) ?_
      refine bd_ok (errorOf_ok hN ok hr (by omega) (show y7 < j by omega) hj.2) ?_
      refine gd_ok hn (gd_ok ⟨by omega, by omega⟩ (in_ok (by omega) ?_))
      by_cases d : 0 ≤ dcV (FP.dadd (eb (61 * y7 + (R - 1))) (eO g b y7 j)) y5 .g
      · refine ip_ok d ?_
        rw [m_X13_laysSplit_b125]
        refine ih (n + 1) y4 y5 (y7 + 1) (by omega) (by omega) ?_ ?_ (by omega)
        · rw [pkS, ey, ← h4, ← ef, if_pos d, h3]
        · rw [pkS, ey, ← h4, ← ef, if_pos d]; exact h4
      · refine in_ok d ?_
        rw [m_X13_laysSplit_b117, m_X13_laysSplit_b125]
        refine ih (n + 1) y7 _ (y7 + 1) (by omega) (by omega) ?_ ?_ (by omega)
        · rw [pkS, ey, ← h4, ← ef, if_neg d]
        · rw [pkS, ey, ← h4, ← ef, if_neg d]
theorem lays_b73_0 (hN : 40000 ≤ N) (ok : okP g b) {sc go ba : Int → Int} (hr : RwA g b sc go ba) {x1 R j : Int} {r : Nat} (hR : R = (r : Int) + 2) (hj : R ≤ j ∧ j ≤ cn g b) {eb : Int → UInt64} {lb' : Int → Int} (hf : ∀ s, R - 1 ≤ s → s < j → eb (61 * s + (R - 1)) = (sD g b r s).2) {k47 k54 : (Int → UInt64) → (Int → Int) → Int → Option ((Int → UInt64) × (Int → Int))} : m_X13_laysSplit_b73 N (cn g b) go ba x1 R eb lb' j k47 k54 N (-1) FP.dconst0 (R - 1) = k54 (uP eb (61 * j + R) (sD g b (r + 1) j).2) (uP lb' (61 * j + R) (sD g b (r + 1) j).1) (j + 1) := by
  have ok2 := ok.2.1
  obtain ⟨f, rfl⟩ : ∃ f, N = f + 1 := ⟨N - 1, by omega⟩
  have ef := hf (R - 1) (by omega) (by omega)
  have ei : 61 * (R - 1) + R - 1 = 61 * (R - 1) + (R - 1) := by omega
  have z := st_z ok (r := r) (s := R - 1) (j := j) (by omega) (by omega) hj.2
  have hn : n64 (FP.dadd (eb (61 * (R - 1) + (R - 1))) (eO g b (R - 1) j)) := by rw [ef]; exact z.nn
  have e1 : (r : Int) + 1 = R - 1 := by omega
  rw [m_X13_laysSplit_b73, ei]
  refine gd_ok (by first | omega | (constructor <;> omega) | assumption) ?_
  refine gd_ok (by first | omega | (constructor <;> omega) | assumption) ?_
  refine in_ok (by first | omega | (constructor <;> omega) | assumption) ?_
  refine gd_ok (by first | omega | (constructor <;> omega) | assumption) ?_
  refine bd_ok (errorOf_ok hN ok hr (by omega) (show R - 1 < j by omega) hj.2) ?_
  refine gd_ok hn (gd_ok ⟨by decide, by decide⟩ (ip_ok rfl ?_))
  rw [m_X13_laysSplit_b117, m_X13_laysSplit_b125]
  exact lays_b73 hN ok hr hR hj hf f 0 _ _ _ (by omega) (by omega) (by rw [pkS, e1]) (by rw [pkS, e1, ef]) (by omega)
theorem lays_b54 (hN : 40000 ≤ N) (ok : okP g b) {sc go ba : Int → Int} (hr : RwA g b sc go ba) {x1 R : Int} (hR : 2 ≤ R ∧ R ≤ cn g b) {k47 : (Int → UInt64) → (Int → Int) → Int → Option ((Int → UInt64) × (Int → Int))} : ∀ (f : Nat) (eb : Int → UInt64) (lb' : Int → Int) (j : Int), R ≤ j → j ≤ cn g b + 1 → RfR g b (R - 1) eb lb' → (∀ i, R ≤ i → i < j → eb (61 * i + R) = (sD g b (R - 1).toNat i).2 ∧ lb' (61 * i + R) = (sD g b (R - 1).toNat i).1) → (cn g b + 1 - j).toNat < f → ∃ eb' lb2, m_X13_laysSplit_b54 N (cn g b) go ba x1 R k47 f eb lb' j = k47 eb' lb2 (R + 1) ∧ RfR g b R eb' lb2 := by
  have ok2 := ok.2.1
  intro f
  induction f with
  | zero => intro eb lb' j _ _ _ _ h; omega
  | succ f ih =>
    intro eb lb' j h1 h2 h3 h4 hf
    rw [m_X13_laysSplit_b54]
    by_cases c : cn g b < j
    · refine ⟨eb, lb', ?_, fun q i q1 q2 i1 i2 => ?_⟩
      · refine gd_ok (by first | omega | (constructor <;> omega) | assumption) ?_
        refine gd_ok (by first | omega | (constructor <;> omega) | assumption) ?_
        refine ip_ok (c) ?_
        rfl
      · by_cases e : q = R
        · subst e; exact h4 i i1 (by omega)
        · exact h3 q i q1 (by omega) i1 i2
    · have t := lays_b73_0 (x1 := x1) hN ok hr (R := R) (j := j) (r := (R - 2).toNat) (by omega) ⟨h1, by omega⟩ (eb := eb) (lb' := lb') (fun s s1 s2 => by
        have := (h3 (R - 1) s (by omega) (Int.le_refl _) s1 (by omega)).1
        rw [this, show (R - 1 - 1).toNat = (R - 2).toNat by omega]) (k47 := k47) (k54 := m_X13_laysSplit_b54 N (cn g b) go ba x1 R k47 f)
      rw [show (R - 2).toNat + 1 = (R - 1).toNat by omega] at t
      obtain ⟨eb', lb2, k1, k2⟩ := ih (uP eb (61 * j + R) (sD g b (R - 1).toNat j).2) (uP lb' (61 * j + R) (sD g b (R - 1).toNat j).1) (j + 1) (by omega) (by omega) (fun q i q1 q2 i1 i2 => by
        rw [uP_o _ _ (by omega), uP_o _ _ (by omega)]; exact h3 q i q1 q2 i1 i2) (fun i i1 i2 => by
        by_cases e : i = j
        · subst e; rw [uP_s, uP_s]; exact ⟨rfl, rfl⟩
        · rw [uP_o _ _ (by omega), uP_o _ _ (by omega)]; exact h4 i i1 (by omega)) (by omega)
      refine ⟨eb', lb2, ?_, k2⟩
      rw [← k1, ← t]
      refine gd_ok (by first | omega | (constructor <;> omega) | assumption) ?_
      refine gd_ok (by first | omega | (constructor <;> omega) | assumption) ?_
      refine in_ok (c) ?_
      rfl
theorem lays_b47 (hN : 40000 ≤ N) (ok : okP g b) {sc go ba : Int → Int} (hr : RwA g b sc go ba) {x1 : Int} (hx : 1 ≤ x1 ∧ x1 ≤ cn g b) : ∀ (f : Nat) (eb : Int → UInt64) (lb' : Int → Int) (R : Int), 2 ≤ R → R ≤ x1 + 1 → RfR g b (R - 1) eb lb' → (x1 + 1 - R).toNat < f → ∃ eb' lb2, m_X13_laysSplit_b47 N (cn g b) go ba x1 f eb lb' R = some (eb', lb2) ∧ RfR g b x1 eb' lb2 := by
  have ok2 := ok.2.1
  intro f
  induction f with
  | zero => intro eb lb' R _ _ _ h; omega
  | succ f ih =>
    intro eb lb' R h1 h2 h3 hf
    rw [m_X13_laysSplit_b47]
    by_cases c : x1 < R
    · have e : R - 1 = x1 := by omega
      rw [e] at h3
      refine ⟨eb, lb', ?_, h3⟩
      refine gd_ok (by first | omega | (constructor <;> omega) | assumption) ?_
      refine gd_ok (by first | omega | (constructor <;> omega) | assumption) ?_
      refine ip_ok (c) ?_
      rfl
    · obtain ⟨eb', lb2, k1, k2⟩ := lays_b54 (x1 := x1) hN ok hr (R := R) ⟨h1, by omega⟩ (k47 := m_X13_laysSplit_b47 N (cn g b) go ba x1 f) N eb lb' R (Int.le_refl _) (by omega) h3 (fun i i1 i2 => by omega) (by omega)
      obtain ⟨eb2, lb3, m1, m2⟩ := ih eb' lb2 (R + 1) (by omega) (by omega) (by rw [show R + 1 - 1 = R by omega]; exact k2) (by omega)
      refine ⟨eb2, lb3, ?_, m2⟩
      rw [← m1, ← k1]
      refine gd_ok (by first | omega | (constructor <;> omega) | assumption) ?_
      refine gd_ok (by first | omega | (constructor <;> omega) | assumption) ?_
      refine in_ok (c) ?_
      rfl
theorem lays_b2 (hN : 40000 ≤ N) (ok : okP g b) {sc go ba : Int → Int} (hr : RwA g b sc go ba) {x1 : Int} (hx : 1 ≤ x1 ∧ x1 ≤ cn g b) : ∀ (f : Nat) (eb : Int → UInt64) (lb' : Int → Int) (j : Int), 1 ≤ j → j ≤ cn g b + 1 → (∀ i, 1 ≤ i → i < j → eb (61 * i + 1) = (sD g b 0 i).2 ∧ lb' (61 * i + 1) = (sD g b 0 i).1) → (cn g b + 1 - j).toNat < f → ∃ eb' lb2, m_X13_laysSplit_b2 N (cn g b) go ba x1 f eb lb' j = some (eb', lb2) ∧ RfR g b x1 eb' lb2 := by
  have ok2 := ok.2.1
  intro f
  induction f with
  | zero => intro eb lb' j _ _ _ h; omega
  | succ f ih =>
    intro eb lb' j h1 h2 h3 hf
    rw [m_X13_laysSplit_b2]
    by_cases c : cn g b < j
    · obtain ⟨eb', lb2, k1, k2⟩ := lays_b47 hN ok hr hx N eb lb' 2 (by decide) (by omega) (fun q i q1 q2 i1 i2 => by
        have e : q = 1 := by omega
        subst e
        exact h3 i i1 (by omega)) (by omega)
      refine ⟨eb', lb2, ?_, k2⟩
      rw [← k1]
      refine gd_ok (by first | omega | (constructor <;> omega) | assumption) ?_
      refine gd_ok (by first | omega | (constructor <;> omega) | assumption) ?_
      refine ip_ok (c) ?_
      rfl
    · obtain ⟨eb', lb2, k1, k2⟩ := ih (uP eb (61 * j + 1) (eO g b 0 j)) (uP lb' (61 * j + 1) 0) (j + 1) (by omega) (by omega) (fun i i1 i2 => by
        by_cases e : i = j
        · subst e; rw [uP_s, uP_s]; exact ⟨rfl, rfl⟩
        · rw [uP_o _ _ (by omega), uP_o _ _ (by omega)]; exact h3 i i1 (by omega)) (by omega)
      refine ⟨eb', lb2, ?_, k2⟩
      rw [← k1]
      refine gd_ok (by first | omega | (constructor <;> omega) | assumption) ?_
      refine gd_ok (by first | omega | (constructor <;> omega) | assumption) ?_
      refine in_ok (c) ?_
      refine bd_ok (errorOf_ok hN ok hr (Int.le_refl 0) (show 0 < j by omega) (by omega)) ?_
      refine gd_ok (by first | omega | (constructor <;> omega) | assumption) ?_
      rfl
theorem lays_ok (hN : 40000 ≤ N) (ok : okP g b) {sc go ba : Int → Int} (hr : RwA g b sc go ba) {x1 : Int} (hx : 1 ≤ x1 ∧ x1 ≤ cn g b) {eb : Int → UInt64} {lb' : Int → Int} : ∃ eb' lb2, m_X13_laysSplit N (cn g b) go ba eb lb' x1 = some (eb', lb2) ∧ RfR g b x1 eb' lb2 := by
  have ok2 := ok.2.1
  rw [m_X13_laysSplit]
  exact lays_b2 hN ok hr hx N eb lb' 1 (by decide) (by omega) (fun i i1 i2 => by omega) (by omega)
end
