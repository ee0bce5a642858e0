/-! the same answer: rows -/
section
variable {N : Nat} {g b : Int → Int}
theorem accepted_ok {bl : Int → Int} (hb : BlA g b bl) {c : Int} (hc : 0 ≤ c ∧ c ≤ 1000) : m_X13_accepted N bl c = some (cG g b (cn g b) + cB g b (cn g b) - (cG g b (lb g b c) + cB g b (lb g b c))) := by
  obtain ⟨a1, a2⟩ := hb c hc.1 hc.2
  have ea := hb.all
  have e1 : m_X13_allGood N bl = some (cG g b (cn g b)) := by rw [m_X13_allGood, hb.all.1]
  have e2 : m_X13_allBad N bl = some (cB g b (cn g b)) := by rw [m_X13_allBad, hb.all.2]
  rw [m_X13_accepted, a1, a2]
  repeat (first | (with_reducible refine gd_ok ?_ ?_; focus (first | omega | assumption | ((repeat' refine And.intro ?_ ?_) <;> first | omega | assumption) | fail)) | (with_reducible refine ip_ok ?_ ?_; focus (first | omega | assumption | ((repeat' refine And.intro ?_ ?_) <;> first | omega | assumption) | fail)) | (with_reducible refine in_ok ?_ ?_; focus (first | omega | assumption | ((repeat' refine And.intro ?_ ?_) <;> first | omega | assumption) | fail)) | (rw [e1, so_bd]; try dsimp only) | (rw [e2, so_bd]; try dsimp only) | (rw [so_bd]; try dsimp only))
  congr 1
  omega
def lmP (g b : Int → Int) (m i : Int) : Prop := (cB g b (cn g b) - cB g b i) * 1000 ≤ m * (cG g b (cn g b) + cB g b (cn g b) - (cG g b i + cB g b i))
theorem lm_bd (ok : okP g b) {m i : Int} (hm : 0 ≤ m ∧ m ≤ 1000) (h0 : 0 ≤ i) (hi : i ≤ cn g b) : (0 ≤ cB g b (cn g b) - cB g b i ∧ cB g b (cn g b) - cB g b i ≤ 11880) ∧ 0 ≤ m * (cG g b (cn g b) + cB g b (cn g b) - (cG g b i + cB g b i)) ∧ m * (cG g b (cn g b) + cB g b (cn g b) - (cG g b i + cB g b i)) ≤ 11880000 := by
  have b1 := cG_b ok h0 hi
  have b3 := cG_b ok (cn_0 g b) (Int.le_refl _)
  have m1 := cG_m ok h0 hi (Int.le_refl _)
  have m2 := cB_m ok h0 hi (Int.le_refl _)
  have p := mul_bd (a := m) (b := cG g b (cn g b) + cB g b (cn g b) - (cG g b i + cB g b i)) (A := 1000) (B := 11880) hm (by omega)
  omega
theorem leastCut_none (ok : okP g b) {sc go ba gA bA : Int → Int} (hr : RwA g b sc go ba) (h : AhA g b gA bA) {m : Int} (hm : 0 ≤ m ∧ m ≤ 1000) (hP : ∀ i, 0 ≤ i → i < cn g b → ¬ lmP g b m i) : ∀ (f : Nat) (y : Int), 0 ≤ y → y ≤ cn g b → (cn g b - y).toNat < f → m_X8_leastCutOf_b2 N (cn g b) sc gA bA m f y = some (-1) := by
  have ok2 := ok.2.1
  intro f
  induction f with
  | zero => intro y _ _ h; omega
  | succ f ih =>
    intro y y0 y1 hf
    rw [m_X8_leastCutOf_b2]
    by_cases c : cn g b ≤ y
    · repeat (first | (with_reducible refine gd_ok ?_ ?_; focus (first | omega | assumption | ((repeat' refine And.intro ?_ ?_) <;> first | omega | assumption) | fail)) | (with_reducible refine ip_ok ?_ ?_; focus (first | omega | assumption | ((repeat' refine And.intro ?_ ?_) <;> first | omega | assumption) | fail)) | (with_reducible refine in_ok ?_ ?_; focus (first | omega | assumption | ((repeat' refine And.intro ?_ ?_) <;> first | omega | assumption) | fail)) | (rw [so_bd]; try dsimp only))
      all_goals rfl
    · have q := hP y y0 (by omega)
      have bd := lm_bd ok hm y0 y1
      unfold lmP at q
      rw [(h y y0 y1).2]
      repeat (first | (with_reducible refine gd_ok ?_ ?_; focus (first | omega | assumption | ((repeat' refine And.intro ?_ ?_) <;> first | omega | assumption) | fail)) | (with_reducible refine ip_ok ?_ ?_; focus (first | omega | assumption | ((repeat' refine And.intro ?_ ?_) <;> first | omega | assumption) | fail)) | (with_reducible refine in_ok ?_ ?_; focus (first | omega | assumption | ((repeat' refine And.intro ?_ ?_) <;> first | omega | assumption) | fail)) | (rw [rcases_ok ok h, so_bd]; try dsimp only) | (rw [casesAhead_ok ok h y0 y1, so_bd]; try dsimp only) | (rw [bads_ok ok h, so_bd]; try dsimp only) | (rw [so_bd]; try dsimp only))
      exact ih (y + 1) (by omega) (by omega) (by omega)
theorem leastCut_some (ok : okP g b) {sc go ba gA bA : Int → Int} (hr : RwA g b sc go ba) (h : AhA g b gA bA) {m i : Int} (hm : 0 ≤ m ∧ m ≤ 1000) (hi : 0 ≤ i ∧ i < cn g b) (hp : lmP g b m i) (hP : ∀ j, 0 ≤ j → j < i → ¬ lmP g b m j) : ∀ (f : Nat) (y : Int), 0 ≤ y → y ≤ i → (i - y).toNat < f → m_X8_leastCutOf_b2 N (cn g b) sc gA bA m f y = some (cutB g b i) := by
  have ok2 := ok.2.1
  intro f
  induction f with
  | zero => intro y _ _ h; omega
  | succ f ih =>
    intro y y0 y1 hf
    have bd := lm_bd ok hm y0 (by omega)
    rw [m_X8_leastCutOf_b2, (h y y0 (by omega)).2]
    by_cases c : y = i
    · subst c
      unfold lmP at hp
      repeat (first | (with_reducible refine gd_ok ?_ ?_; focus (first | omega | assumption | ((repeat' refine And.intro ?_ ?_) <;> first | omega | assumption) | fail)) | (with_reducible refine ip_ok ?_ ?_; focus (first | omega | assumption | ((repeat' refine And.intro ?_ ?_) <;> first | omega | assumption) | fail)) | (with_reducible refine in_ok ?_ ?_; focus (first | omega | assumption | ((repeat' refine And.intro ?_ ?_) <;> first | omega | assumption) | fail)) | (rw [rcases_ok ok h, so_bd]; try dsimp only) | (rw [casesAhead_ok ok h y0 (by omega), so_bd]; try dsimp only) | (rw [bads_ok ok h, so_bd]; try dsimp only) | (rw [cutBehind_ok ok hr y0 (by omega), so_bd]; try dsimp only) | (rw [so_bd]; try dsimp only))
      all_goals rfl
    · have q := hP y y0 (by omega)
      unfold lmP at q
      repeat (first | (with_reducible refine gd_ok ?_ ?_; focus (first | omega | assumption | ((repeat' refine And.intro ?_ ?_) <;> first | omega | assumption) | fail)) | (with_reducible refine ip_ok ?_ ?_; focus (first | omega | assumption | ((repeat' refine And.intro ?_ ?_) <;> first | omega | assumption) | fail)) | (with_reducible refine in_ok ?_ ?_; focus (first | omega | assumption | ((repeat' refine And.intro ?_ ?_) <;> first | omega | assumption) | fail)) | (rw [rcases_ok ok h, so_bd]; try dsimp only) | (rw [casesAhead_ok ok h y0 (by omega), so_bd]; try dsimp only) | (rw [bads_ok ok h, so_bd]; try dsimp only) | (rw [so_bd]; try dsimp only))
      exact ih (y + 1) (by omega) (by omega) (by omega)
theorem limit_none (ok : okP g b) {stt sc go ba bl : Int → Int} {z : Int} (hb : BlA g b bl) {m : Int} (hm : 0 ≤ m ∧ m ≤ 1000) (hP : ∀ i, 0 ≤ i → i < cn g b → ¬ lmP g b m i) : ∀ (f : Nat) (y : Int), 0 ≤ y → y ≤ 1001 → (1001 - y).toNat < f → Rt (m_X13_limit_b16 N stt m z sc go ba bl f y) (-1) := by
  have ok2 := ok.2.1
  intro f
  induction f with
  | zero => intro y _ _ h; omega
  | succ f ih =>
    intro y y0 y1 hf
    rw [m_X13_limit_b16]
    by_cases c : 1000 < y
    · repeat (first | (with_reducible refine Rt.gd ?_ ?_; focus (first | omega | assumption | ((repeat' refine And.intro ?_ ?_) <;> first | omega | assumption) | fail)) | (with_reducible refine Rt.ip ?_ ?_; focus (first | omega | assumption | ((repeat' refine And.intro ?_ ?_) <;> first | omega | assumption) | fail)) | (with_reducible refine Rt.in_ ?_ ?_; focus (first | omega | assumption | ((repeat' refine And.intro ?_ ?_) <;> first | omega | assumption) | fail)) | (rw [so_bd]; try dsimp only))
      all_goals exact Rt.so
    · have li := lb_in (g := g) (b := b) (c := y) (by omega)
      have bd := lm_bd ok hm li.1 li.2
      have b1 := cG_b ok li.1 li.2
      have b3 := cG_b ok (cn_0 g b) (Int.le_refl _)
      have m1 := cG_m ok li.1 li.2 (Int.le_refl _)
      have m2 := cB_m ok li.1 li.2 (Int.le_refl _)
      have ea := hb.all
      have e2 : m_X13_allBad N bl = some (cB g b (cn g b)) := by rw [m_X13_allBad, hb.all.2]
      have ih := ih (y + 1) (by omega) (by omega) (by omega)
      rw [(hb y y0 (by omega)).2]
      by_cases d : lb g b y < cn g b
      · have q := hP _ li.1 d
        unfold lmP at q
        repeat (first | (with_reducible refine Rt.gd ?_ ?_; focus (first | omega | assumption | ((repeat' refine And.intro ?_ ?_) <;> first | omega | assumption) | fail)) | (with_reducible refine Rt.ip ?_ ?_; focus (first | omega | assumption | ((repeat' refine And.intro ?_ ?_) <;> first | omega | assumption) | fail)) | (with_reducible refine Rt.in_ ?_ ?_; focus (first | omega | assumption | ((repeat' refine And.intro ?_ ?_) <;> first | omega | assumption) | fail)) | (rw [accepted_ok hb ⟨y0, by omega⟩, so_bd]; try dsimp only) | (rw [e2, so_bd]; try dsimp only) | (rw [so_bd]; try dsimp only))
        exact ih
      · have e : lb g b y = cn g b := by omega
        have ac := accepted_ok (N := N) hb (c := y) ⟨y0, by omega⟩
        rw [e] at ac
        repeat (first | (with_reducible refine Rt.gd ?_ ?_; focus (first | omega | assumption | ((repeat' refine And.intro ?_ ?_) <;> first | omega | assumption) | fail)) | (with_reducible refine Rt.ip ?_ ?_; focus (first | omega | assumption | ((repeat' refine And.intro ?_ ?_) <;> first | omega | assumption) | fail)) | (with_reducible refine Rt.in_ ?_ ?_; focus (first | omega | assumption | ((repeat' refine And.intro ?_ ?_) <;> first | omega | assumption) | fail)) | (rw [ac, so_bd]; try dsimp only) | (rw [so_bd]; try dsimp only))
        exact ih
theorem limit_some (ok : okP g b) {stt sc go ba bl : Int → Int} {z : Int} (hb : BlA g b bl) {m i : Int} (hm : 0 ≤ m ∧ m ≤ 1000) (hi : 0 ≤ i ∧ i < cn g b) (hp : lmP g b m i) (hP : ∀ j, 0 ≤ j → j < i → ¬ lmP g b m j) : ∀ (f : Nat) (y : Int), 0 ≤ y → y ≤ cutB g b i → (cutB g b i - y).toNat < f → Rt (m_X13_limit_b16 N stt m z sc go ba bl f y) (cutB g b i) := by
  have ok2 := ok.2.1
  have ci := cutB_in (g := g) (b := b) (i := i) ⟨hi.1, by omega⟩
  intro f
  induction f with
  | zero => intro y _ _ h; omega
  | succ f ih =>
    intro y y0 y1 hf
    have li := lb_in (g := g) (b := b) (c := y) (by omega)
    have bd := lm_bd ok hm li.1 li.2
    have b1 := cG_b ok li.1 li.2
    have b3 := cG_b ok (cn_0 g b) (Int.le_refl _)
    have m1 := cG_m ok li.1 li.2 (Int.le_refl _)
    have m2 := cB_m ok li.1 li.2 (Int.le_refl _)
    have ea := hb.all
    have e2 : m_X13_allBad N bl = some (cB g b (cn g b)) := by rw [m_X13_allBad, hb.all.2]
    rw [m_X13_limit_b16, (hb y y0 (by omega)).2]
    have ac := accepted_ok (N := N) hb (c := y) ⟨y0, by omega⟩
    by_cases c : y = cutB g b i
    · have e : lb g b y = i := by rw [c]; exact lb_cutB ⟨hi.1, by omega⟩
      have cd := cC_d (g := g) (b := b) hi.1 (show i ≤ cn g b by omega) (Int.le_refl _)
      have p := hp
      unfold lmP at p
      rw [e] at b1 m1 m2 bd ac
      rw [e]
      repeat (first | (with_reducible refine Rt.gd ?_ ?_; focus (first | omega | assumption | ((repeat' refine And.intro ?_ ?_) <;> first | omega | assumption) | fail)) | (with_reducible refine Rt.ip ?_ ?_; focus (first | omega | assumption | ((repeat' refine And.intro ?_ ?_) <;> first | omega | assumption) | fail)) | (with_reducible refine Rt.in_ ?_ ?_; focus (first | omega | assumption | ((repeat' refine And.intro ?_ ?_) <;> first | omega | assumption) | fail)) | (rw [ac, so_bd]; try dsimp only) | (rw [e2, so_bd]; try dsimp only) | (rw [so_bd]; try dsimp only))
      rw [c]
      exact Rt.so
    · have d : lb g b y < i := by
        by_cases d : lb g b y < i
        · exact d
        · have := cutB_le (g := g) (b := b) (c := y) (i := i) ⟨y0, by omega⟩ hi.1 (by omega)
          omega
      have cd := cC_d (g := g) (b := b) li.1 (show lb g b y ≤ cn g b by omega) (Int.le_refl _)
      have q := hP _ li.1 d
      unfold lmP at q
      repeat (first | (with_reducible refine Rt.gd ?_ ?_; focus (first | omega | assumption | ((repeat' refine And.intro ?_ ?_) <;> first | omega | assumption) | fail)) | (with_reducible refine Rt.ip ?_ ?_; focus (first | omega | assumption | ((repeat' refine And.intro ?_ ?_) <;> first | omega | assumption) | fail)) | (with_reducible refine Rt.in_ ?_ ?_; focus (first | omega | assumption | ((repeat' refine And.intro ?_ ?_) <;> first | omega | assumption) | fail)) | (rw [accepted_ok hb ⟨y0, by omega⟩, so_bd]; try dsimp only) | (rw [e2, so_bd]; try dsimp only) | (rw [so_bd]; try dsimp only))
      exact ih (y + 1) (by omega) (by omega) (by omega)
end
section
variable {N : Nat} {g b stt : Int → Int} {le mo sp run run' : Int} {sd rz pz bz : Int} {rsc rgo rba rgA rbA ple pgr pgo pba pri ble bgr bgo bba bri : Int → Int} {rsc' rgo' rba' rgA' rbA' ple' pgr' pgo' pba' pri' ble' bgr' bgo' bba' bri' : Int → Int} {z1 z2 : Int} {s1 s2 s3 s4 : Int → Int}
theorem q_limit (hN : 40000 ≤ N) (ok : okP g b) (hle : 0 ≤ le ∧ le ≤ 9999) (hmo : 1 ≤ mo ∧ mo ≤ 60) (hset : m_X12_settle N le mo g b sp sd rz rsc rgo rba rgA rbA pz ple pgr pgo pba pri bz ble bgr bgo bba bri run = some (1, cn g b, rsc', rgo', rba', rgA', rbA', pmm g b, ple', pgr', pgo', pba', pri', bmm g b le mo, ble', bgr', bgo', bba', bri', run')) (hS : Stl g b le mo rsc' rgo' rba' rgA' rbA' ple' pgr' pgo' pba' pri' ble' bgr' bgo' bba' bri') (hst : StA stt g b) (h3 : stt 3201 = le ∧ stt 3202 = mo) {x1 : Int} (hx1 : rI x1) : Ans (m_X12_limit N le mo g b sp sd rz rsc rgo rba rgA rbA pz ple pgr pgo pba pri bz ble bgr bgo bba bri run x1) (m_X13_limit N stt z1 s1 s2 s3 s4 x1) (1, cn g b, rsc', rgo', rba', rgA', rbA', pmm g b, ple', pgr', pgo', pba', pri', bmm g b le mo, ble', bgr', bgo', bba', bri', run') (sd, rz, rsc, rgo, rba, rgA, rbA, pz, ple, pgr, pgo, pba, pri, bz, ble, bgr, bgo, bba, bri, run) := by
  obtain ⟨sc1, go1, ba1, bl1, lb1, hr, hbl⟩ := laysBelow_ok (z := z1) (s1 := s1) (s2 := s2) (s3 := s3) (bl := s4) hN ok hst
  obtain ⟨hn, hbm, hpm⟩ := le_mo ok hle hmo
  obtain ⟨S1, S2, S3, S4⟩ := hS
  rw [m_X12_limit, m_X13_limit]
  by_cases c : 0 ≤ x1 ∧ x1 ≤ 1000
  · rcases fst_or (lmP g b x1) (cn g b).toNat with ⟨i, h1, h2, h3⟩ | h
    · have ci := cutB_in (g := g) (b := b) (i := i) ⟨h1.1, by omega⟩
      have e1 : m_X8_leastCutOf N (cn g b) rsc' rgA' rbA' x1 = some (cutB g b i) := leastCut_some ok S1 S2 c ⟨h1.1, by omega⟩ h2 h3 N 0 (Int.le_refl 0) h1.1 (by omega)
      refine ⟨cutB g b i, Or.inl ?_, ?_⟩
      · repeat (first | (with_reducible refine gd_ok ?_ ?_; focus (first | omega | assumption | ((repeat' refine And.intro ?_ ?_) <;> first | omega | assumption) | fail)) | (with_reducible refine ip_ok ?_ ?_; focus (first | omega | assumption | ((repeat' refine And.intro ?_ ?_) <;> first | omega | assumption) | fail)) | (with_reducible refine in_ok ?_ ?_; focus (first | omega | assumption | ((repeat' refine And.intro ?_ ?_) <;> first | omega | assumption) | fail)) | (rw [hset, so_bd]; try dsimp only) | (rw [e1, so_bd]; try dsimp only) | (rw [so_bd]; try dsimp only))
        all_goals rfl
      · repeat (first | (with_reducible refine Rt.gd ?_ ?_; focus (first | omega | assumption | ((repeat' refine And.intro ?_ ?_) <;> first | omega | assumption) | fail)) | (with_reducible refine Rt.ip ?_ ?_; focus (first | omega | assumption | ((repeat' refine And.intro ?_ ?_) <;> first | omega | assumption) | fail)) | (with_reducible refine Rt.in_ ?_ ?_; focus (first | omega | assumption | ((repeat' refine And.intro ?_ ?_) <;> first | omega | assumption) | fail)) | (rw [isMille1 c, so_bd]; try dsimp only) | (rw [lb1, so_bd]; try dsimp only) | (rw [so_bd]; try dsimp only))
        exact limit_some ok hbl c ⟨h1.1, by omega⟩ h2 h3 N 0 (Int.le_refl 0) ci.1 (by omega)
    · have hh : ∀ i, 0 ≤ i → i < cn g b → ¬ lmP g b x1 i := fun i i0 i1 => h i i0 (by omega)
      have e1 : m_X8_leastCutOf N (cn g b) rsc' rgA' rbA' x1 = some (-1) := leastCut_none ok S1 S2 c hh N 0 (Int.le_refl 0) hn.1 (by omega)
      refine ⟨-1, Or.inl ?_, ?_⟩
      · repeat (first | (with_reducible refine gd_ok ?_ ?_; focus (first | omega | assumption | ((repeat' refine And.intro ?_ ?_) <;> first | omega | assumption) | fail)) | (with_reducible refine ip_ok ?_ ?_; focus (first | omega | assumption | ((repeat' refine And.intro ?_ ?_) <;> first | omega | assumption) | fail)) | (with_reducible refine in_ok ?_ ?_; focus (first | omega | assumption | ((repeat' refine And.intro ?_ ?_) <;> first | omega | assumption) | fail)) | (rw [hset, so_bd]; try dsimp only) | (rw [e1, so_bd]; try dsimp only) | (rw [so_bd]; try dsimp only))
        all_goals rfl
      · repeat (first | (with_reducible refine Rt.gd ?_ ?_; focus (first | omega | assumption | ((repeat' refine And.intro ?_ ?_) <;> first | omega | assumption) | fail)) | (with_reducible refine Rt.ip ?_ ?_; focus (first | omega | assumption | ((repeat' refine And.intro ?_ ?_) <;> first | omega | assumption) | fail)) | (with_reducible refine Rt.in_ ?_ ?_; focus (first | omega | assumption | ((repeat' refine And.intro ?_ ?_) <;> first | omega | assumption) | fail)) | (rw [isMille1 c, so_bd]; try dsimp only) | (rw [lb1, so_bd]; try dsimp only) | (rw [so_bd]; try dsimp only))
        exact limit_none ok hbl c hh N 0 (Int.le_refl 0) (by decide) (by omega)
  · refine ⟨-2, Or.inr ?_, ?_⟩
    · by_cases d : x1 < 0
      · repeat (first | (with_reducible refine gd_ok ?_ ?_; focus (first | omega | assumption | ((repeat' refine And.intro ?_ ?_) <;> first | omega | assumption) | fail)) | (with_reducible refine ip_ok ?_ ?_; focus (first | omega | assumption | ((repeat' refine And.intro ?_ ?_) <;> first | omega | assumption) | fail)) | (with_reducible refine in_ok ?_ ?_; focus (first | omega | assumption | ((repeat' refine And.intro ?_ ?_) <;> first | omega | assumption) | fail)) | (rw [so_bd]; try dsimp only))
        all_goals rfl
      · repeat (first | (with_reducible refine gd_ok ?_ ?_; focus (first | omega | assumption | ((repeat' refine And.intro ?_ ?_) <;> first | omega | assumption) | fail)) | (with_reducible refine ip_ok ?_ ?_; focus (first | omega | assumption | ((repeat' refine And.intro ?_ ?_) <;> first | omega | assumption) | fail)) | (with_reducible refine in_ok ?_ ?_; focus (first | omega | assumption | ((repeat' refine And.intro ?_ ?_) <;> first | omega | assumption) | fail)) | (rw [so_bd]; try dsimp only))
        all_goals rfl
    · repeat (first | (with_reducible refine Rt.gd ?_ ?_; focus (first | omega | assumption | ((repeat' refine And.intro ?_ ?_) <;> first | omega | assumption) | fail)) | (with_reducible refine Rt.ip ?_ ?_; focus (first | omega | assumption | ((repeat' refine And.intro ?_ ?_) <;> first | omega | assumption) | fail)) | (with_reducible refine Rt.in_ ?_ ?_; focus (first | omega | assumption | ((repeat' refine And.intro ?_ ?_) <;> first | omega | assumption) | fail)) | (rw [isMille0 hx1 c, so_bd]; try dsimp only) | (rw [so_bd]; try dsimp only))
      all_goals exact Rt.so
end
