/-! cuts by score, cuts by rows -/
section
variable {g b : Int → Int}
theorem lb_iff {k : Nat} (hk : k ≤ 1000) {i : Int} (h0 : 0 ≤ i) (hi : i < cn g b) : i < rwN g b k ↔ cs g b i < k := by
  constructor
  · intro h
    have e := rwS_pre (g := g) (b := b) hk h
    have q := (rwS_in (g := g) (b := b) k h0 h).2.1
    show rwS g b 1000 i < k
    rw [e]; exact q
  · intro h
    have hc := cs_in (g := g) (b := b) h0 hi
    obtain ⟨j, j0, j1, j2⟩ := rwS_ex (g := g) (b := b) k hc.1 h hc.2.2
    by_cases c : i < rwN g b k
    · exact c
    · have e := rwS_pre (g := g) (b := b) hk j1
      have l := cs_lt (g := g) (b := b) j0 (show j < i by omega) hi
      have e2 : cs g b j = rwS g b k j := e
      omega
def lb (g b : Int → Int) (c : Int) : Int := rwN g b c.toNat
theorem lb_in {c : Int} (h1 : c ≤ 1000) : 0 ≤ lb g b c ∧ lb g b c ≤ cn g b := ⟨(rwN_0 _).1, rwN_le (by omega)⟩
theorem lb_lt {c i : Int} (hc : 0 ≤ c ∧ c ≤ 1000) (h0 : 0 ≤ i) (hi : i < cn g b) : i < lb g b c ↔ cs g b i < c := by
  have h := lb_iff (g := g) (b := b) (k := c.toNat) (by omega) h0 hi
  have e : (c.toNat : Int) = c := by omega
  rw [e] at h
  exact h
theorem lb_s {c : Int} (hc : 0 ≤ c ∧ c < 1000) : (lb g b c < cn g b ∧ cs g b (lb g b c) = c ∧ lb g b (c + 1) = lb g b c + 1) ∨ (lb g b (c + 1) = lb g b c ∧ (lb g b c < cn g b → ¬ cs g b (lb g b c) = c)) := by
  have e : (c + 1).toNat = c.toNat + 1 := by omega
  have ec : (c.toNat : Int) = c := by omega
  have l1 := lb_in (g := g) (b := b) (c := c + 1) (by omega)
  have l0 := lb_in (g := g) (b := b) (c := c) (by omega)
  by_cases p : 0 < g c.toNat + b c.toNat
  · left
    have s0 : lb g b (c + 1) = rwN g b (c.toNat + 1) := by unfold lb; rw [e]
    have s1 : lb g b (c + 1) = lb g b c + 1 := by rw [s0, rwN_p p]; rfl
    refine ⟨by omega, ?_, s1⟩
    have q := rwS_pre (g := g) (b := b) (k := c.toNat + 1) (n := 1000) (by omega) (i := lb g b c) (by omega)
    show rwS g b 1000 (lb g b c) = c
    rw [q, rwS_p p]
    show uP _ (lb g b c) _ (lb g b c) = c
    rw [uP_s, ec]
  · right
    have s1 : lb g b (c + 1) = lb g b c := by unfold lb; rw [e, rwN_n p]
    refine ⟨s1, fun h q => ?_⟩
    have ci := (cs_in (g := g) (b := b) l0.1 h).2.2
    have e3 : cg g b (lb g b c) + cb g b (lb g b c) = g c.toNat + b c.toNat := by unfold cg cb; rw [q, ec]
    omega
def cutB (g b : Int → Int) (i : Int) : Int := if i = 0 then 0 else cs g b (i - 1) + 1
theorem cutB_in {i : Int} (h : 0 ≤ i ∧ i ≤ cn g b) : 0 ≤ cutB g b i ∧ cutB g b i ≤ 1000 := by
  unfold cutB
  by_cases c : i = 0
  · rw [if_pos c]; omega
  · have := cs_in (g := g) (b := b) (i := i - 1) (by omega) (by omega)
    rw [if_neg c]; omega
theorem lb_cutB {i : Int} (h : 0 ≤ i ∧ i ≤ cn g b) : lb g b (cutB g b i) = i := by
  have ci := cutB_in h
  have l0 := lb_in (g := g) (b := b) (c := cutB g b i) ci.2
  by_cases c : i = 0
  · have e : cutB g b i = 0 := if_pos c
    rw [e, c]
    rfl
  · have e : cutB g b i = cs g b (i - 1) + 1 := if_neg c
    have a1 := (lb_lt (g := g) (b := b) ci (i := i - 1) (by omega) (by omega)).mpr (by omega)
    by_cases d : i < cn g b
    · have l := cs_lt (g := g) (b := b) (i := i - 1) (j := i) (by omega) (by omega) d
      have a2 := lb_lt (g := g) (b := b) ci (i := i) (by omega) d
      omega
    · omega
theorem cutB_le {c i : Int} (hc : 0 ≤ c ∧ c ≤ 1000) (h : 0 ≤ i) (hi : i ≤ lb g b c) : cutB g b i ≤ c := by
  have l0 := lb_in (g := g) (b := b) hc.2
  unfold cutB
  by_cases d : i = 0
  · rw [if_pos d]; omega
  · have a1 := (lb_lt (g := g) (b := b) hc (i := i - 1) (by omega) (by omega)).mp (by omega)
    rw [if_neg d]; omega
theorem lb_mono {c d : Int} (h : c ≤ d) : lb g b c ≤ lb g b d := rwN_le (by omega)
theorem lb_all : lb g b 1000 = cn g b := rfl
theorem am_min (C : Int → Int) (n : Nat) : ∀ j : Int, 0 ≤ j → j ≤ n → C (am C n) ≤ C j := by
  induction n with
  | zero =>
    intro j h0 h1
    have e : j = 0 := by omega
    subst e
    exact Int.le_refl _
  | succ n ih =>
    intro j h0 h1
    rw [am]
    by_cases c : C ((n : Int) + 1) < C (am C n)
    · rw [if_pos c]
      by_cases e : j = (n : Int) + 1
      · rw [e]; exact Int.le_refl _
      · have := ih j h0 (by omega); omega
    · rw [if_neg c]
      by_cases e : j = (n : Int) + 1
      · rw [e]; omega
      · exact ih j h0 (by omega)
theorem am_lb (F : Int → Int) (n : Nat) : n ≤ 1000 → am (fun c => F (lb g b c)) n = cutB g b (am F (lb g b n).toNat) := by
  induction n with
  | zero => intro _; rfl
  | succ n ih =>
    intro hn
    have ih := ih (by omega)
    have i0 := lb_in (g := g) (b := b) (c := (n : Int)) (by omega)
    have e1 : ((n + 1 : Nat) : Int) = (n : Int) + 1 := by omega
    have a0 := am_in F (lb g b n).toNat
    have lc : lb g b (cutB g b (am F (lb g b n).toNat)) = am F (lb g b n).toNat := lb_cutB ⟨a0.1, by omega⟩
    show (if F (lb g b ((n : Int) + 1)) < F (lb g b (am (fun c => F (lb g b c)) n)) then (n : Int) + 1 else am (fun c => F (lb g b c)) n) = _
    rw [ih, lc]
    rcases lb_s (g := g) (b := b) (c := (n : Int)) ⟨by omega, by omega⟩ with ⟨h1, h2, h3⟩ | ⟨h1, -⟩
    · have e2 : (lb g b ((n + 1 : Nat) : Int)).toNat = (lb g b n).toNat + 1 := by rw [e1, h3]; omega
      have e3 : (((lb g b n).toNat : Nat) : Int) = lb g b n := by omega
      rw [e2, am, e3, h3]
      by_cases c : F (lb g b n + 1) < F (am F (lb g b n).toNat)
      · rw [if_pos c, if_pos c]
        unfold cutB
        rw [if_neg (by omega), Int.add_sub_cancel, h2]
      · rw [if_neg c, if_neg c]
    · have m := am_min F (lb g b n).toNat (lb g b (n : Int)) i0.1 (by omega)
      rw [e1, h1, if_neg (by omega)]
def BlA (g b bl : Int → Int) : Prop := ∀ c, 0 ≤ c → c ≤ 1000 → bl (2 * c) = cG g b (lb g b c) ∧ bl (2 * c + 1) = cB g b (lb g b c)
theorem BlA.all {bl : Int → Int} (h : BlA g b bl) : bl 2000 = cG g b (cn g b) ∧ bl 2001 = cB g b (cn g b) := h 1000 (by decide) (by decide)
theorem below_b2_ok {N : Nat} {sc go ba : Int → Int} (ok : okP g b) (hr : RwA g b sc go ba) {c : Int} (hc : 0 ≤ c ∧ c ≤ 1000) : ∀ (f : Nat) (y : Int), 0 ≤ y → y ≤ lb g b c → (lb g b c - y).toNat < f → m_X8_below_b2 N (cn g b) sc c f y = some (lb g b c) := by
  have ok2 := ok.2.1
  have l0 := lb_in (g := g) (b := b) hc.2
  intro f
  induction f with
  | zero => intro y _ _ h; omega
  | succ f ih =>
    intro y y0 y1 hf
    rw [m_X8_below_b2]
    by_cases d : cn g b ≤ y
    · repeat (first | (with_reducible refine gd_ok ?_ ?_; focus (first | omega | assumption | ((repeat' refine And.intro ?_ ?_) <;> first | omega | assumption) | fail)) | (with_reducible refine ip_ok ?_ ?_; focus (first | omega | assumption | ((repeat' refine And.intro ?_ ?_) <;> first | omega | assumption) | fail)) | (with_reducible refine in_ok ?_ ?_; focus (first | omega | assumption | ((repeat' refine And.intro ?_ ?_) <;> first | omega | assumption) | fail)) | (rw [so_bd]; try dsimp only))
      rw [show y = lb g b c by omega]
    · have e := (hr y y0 (by omega)).1
      have ci := cs_in (g := g) (b := b) y0 (by omega)
      have l := lb_lt (g := g) (b := b) hc y0 (by omega)
      rw [e]
      by_cases q : c ≤ cs g b y
      · repeat (first | (with_reducible refine gd_ok ?_ ?_; focus (first | omega | assumption | ((repeat' refine And.intro ?_ ?_) <;> first | omega | assumption) | fail)) | (with_reducible refine ip_ok ?_ ?_; focus (first | omega | assumption | ((repeat' refine And.intro ?_ ?_) <;> first | omega | assumption) | fail)) | (with_reducible refine in_ok ?_ ?_; focus (first | omega | assumption | ((repeat' refine And.intro ?_ ?_) <;> first | omega | assumption) | fail)) | (rw [so_bd]; try dsimp only))
        rw [show y = lb g b c by omega]
      · repeat (first | (with_reducible refine gd_ok ?_ ?_; focus (first | omega | assumption | ((repeat' refine And.intro ?_ ?_) <;> first | omega | assumption) | fail)) | (with_reducible refine ip_ok ?_ ?_; focus (first | omega | assumption | ((repeat' refine And.intro ?_ ?_) <;> first | omega | assumption) | fail)) | (with_reducible refine in_ok ?_ ?_; focus (first | omega | assumption | ((repeat' refine And.intro ?_ ?_) <;> first | omega | assumption) | fail)) | (rw [so_bd]; try dsimp only))
        exact ih (y + 1) (by omega) (by omega) (by omega)
theorem below_ok {N : Nat} (hN : 40000 ≤ N) {sc go ba : Int → Int} (ok : okP g b) (hr : RwA g b sc go ba) {c : Int} (hc : 0 ≤ c ∧ c ≤ 1000) : m_X8_below N (cn g b) sc c = some (lb g b c) := by
  have ok2 := ok.2.1
  have l0 := lb_in (g := g) (b := b) hc.2
  exact below_b2_ok ok hr hc N 0 (Int.le_refl 0) l0.1 (by omega)
theorem laysBelow_b14_ok {N : Nat} {stt sc go ba : Int → Int} (ok : okP g b) (hr : RwA g b sc go ba) : ∀ (f : Nat) (bl : Int → Int) (y1 y3 y5 y6 : Int), 0 ≤ y6 → y6 ≤ 1001 → (1001 - y6).toNat < f → (∀ c, 0 ≤ c → c < y6 → bl (2 * c) = cG g b (lb g b c) ∧ bl (2 * c + 1) = cB g b (lb g b c)) → (y6 ≤ 1000 → y5 = lb g b y6 ∧ y1 = cG g b y5 ∧ y3 = cB g b y5) → ∃ bl', m_X13_laysBelow_b14 N stt (cn g b) sc go ba f bl y1 y3 y5 y6 = some (cn g b, sc, go, ba, bl') ∧ BlA g b bl' := by
  have ok2 := ok.2.1
  intro f
  induction f with
  | zero => intro bl y1 y3 y5 y6 _ _ h; omega
  | succ f ih =>
    intro bl y1 y3 y5 y6 h0 h1 hf hb hy
    rw [m_X13_laysBelow_b14]
    by_cases c : 1000 < y6
    · refine ⟨bl, ?_, fun c c0 c1 => hb c c0 (by omega)⟩
      repeat (first | (with_reducible refine gd_ok ?_ ?_; focus (first | omega | assumption | ((repeat' refine And.intro ?_ ?_) <;> first | omega | assumption) | fail)) | (with_reducible refine ip_ok ?_ ?_; focus (first | omega | assumption | ((repeat' refine And.intro ?_ ?_) <;> first | omega | assumption) | fail)) | (with_reducible refine in_ok ?_ ?_; focus (first | omega | assumption | ((repeat' refine And.intro ?_ ?_) <;> first | omega | assumption) | fail)) | (rw [so_bd]; try dsimp only))
      all_goals rfl
    · obtain ⟨e5, e1, e3⟩ := hy (by omega)
      have li := lb_in (g := g) (b := b) (c := y6) (by omega)
      have hb' : ∀ c, 0 ≤ c → c < y6 + 1 → uP (uP bl (2 * y6) y1) (2 * y6 + 1) y3 (2 * c) = cG g b (lb g b c) ∧ uP (uP bl (2 * y6) y1) (2 * y6 + 1) y3 (2 * c + 1) = cB g b (lb g b c) := by
        intro c c0 c1
        by_cases e : c = y6
        · rw [e, uP_o _ _ (by omega), uP_s, uP_s, e1, e3, e5]
          exact ⟨rfl, rfl⟩
        · rw [uP_o _ _ (by omega), uP_o _ _ (by omega), uP_o _ _ (by omega), uP_o _ _ (by omega)]
          exact hb c c0 (by omega)
      by_cases d : cn g b ≤ y5
      · have hy' : y6 + 1 ≤ 1000 → y5 = lb g b (y6 + 1) ∧ y1 = cG g b y5 ∧ y3 = cB g b y5 := by
          intro h6
          rcases lb_s (g := g) (b := b) (c := y6) ⟨h0, by omega⟩ with ⟨a1, -, -⟩ | ⟨a1, -⟩
          · omega
          · exact ⟨by omega, e1, e3⟩
        obtain ⟨bl', q1, q2⟩ := ih _ y1 y3 y5 (y6 + 1) (by omega) (by omega) (by omega) hb' hy'
        refine ⟨bl', ?_, q2⟩
        repeat (first | (with_reducible refine gd_ok ?_ ?_; focus (first | omega | assumption | ((repeat' refine And.intro ?_ ?_) <;> first | omega | assumption) | fail)) | (with_reducible refine ip_ok ?_ ?_; focus (first | omega | assumption | ((repeat' refine And.intro ?_ ?_) <;> first | omega | assumption) | fail)) | (with_reducible refine in_ok ?_ ?_; focus (first | omega | assumption | ((repeat' refine And.intro ?_ ?_) <;> first | omega | assumption) | fail)) | (rw [so_bd]; try dsimp only))
        rw [m_X13_laysBelow_b90]
        exact q1
      · have hi := hr.in_ ok (i := y5) (by omega) (by omega)
        obtain ⟨a1, a2, a3⟩ := hr y5 (by omega) (by omega)
        by_cases e : sc y5 = y6
        · have hy' : y6 + 1 ≤ 1000 → y5 + 1 = lb g b (y6 + 1) ∧ y1 + go y5 = cG g b (y5 + 1) ∧ y3 + ba y5 = cB g b (y5 + 1) := by
            intro h6
            rw [cG_s (by omega), cB_s (by omega), e1, e3, a2, a3]
            rcases lb_s (g := g) (b := b) (c := y6) ⟨h0, by omega⟩ with ⟨-, -, b1⟩ | ⟨-, b2⟩
            · exact ⟨by omega, rfl, rfl⟩
            · exact absurd (by rw [← e5, ← a1, e]) (b2 (by omega))
          obtain ⟨bl', q1, q2⟩ := ih _ (y1 + go y5) (y3 + ba y5) (y5 + 1) (y6 + 1) (by omega) (by omega) (by omega) hb' hy'
          refine ⟨bl', ?_, q2⟩
          repeat (first | (with_reducible refine gd_ok ?_ ?_; focus (first | omega | assumption | ((repeat' refine And.intro ?_ ?_) <;> first | omega | assumption) | fail)) | (with_reducible refine ip_ok ?_ ?_; focus (first | omega | assumption | ((repeat' refine And.intro ?_ ?_) <;> first | omega | assumption) | fail)) | (with_reducible refine in_ok ?_ ?_; focus (first | omega | assumption | ((repeat' refine And.intro ?_ ?_) <;> first | omega | assumption) | fail)) | (rw [so_bd]; try dsimp only))
          rw [m_X13_laysBelow_b90]
          exact q1
        · have hy' : y6 + 1 ≤ 1000 → y5 = lb g b (y6 + 1) ∧ y1 = cG g b y5 ∧ y3 = cB g b y5 := by
            intro h6
            rcases lb_s (g := g) (b := b) (c := y6) ⟨h0, by omega⟩ with ⟨-, b2, -⟩ | ⟨b1, -⟩
            · exact absurd (by rw [a1, e5, b2]) e
            · exact ⟨by omega, e1, e3⟩
          obtain ⟨bl', q1, q2⟩ := ih _ y1 y3 y5 (y6 + 1) (by omega) (by omega) (by omega) hb' hy'
          refine ⟨bl', ?_, q2⟩
          repeat (first | (with_reducible refine gd_ok ?_ ?_; focus (first | omega | assumption | ((repeat' refine And.intro ?_ ?_) <;> first | omega | assumption) | fail)) | (with_reducible refine ip_ok ?_ ?_; focus (first | omega | assumption | ((repeat' refine And.intro ?_ ?_) <;> first | omega | assumption) | fail)) | (with_reducible refine in_ok ?_ ?_; focus (first | omega | assumption | ((repeat' refine And.intro ?_ ?_) <;> first | omega | assumption) | fail)) | (rw [so_bd]; try dsimp only))
          rw [m_X13_laysBelow_b90]
          exact q1
theorem laysBelow_ok {N : Nat} (hN : 40000 ≤ N) {stt : Int → Int} (ok : okP g b) (hst : StA stt g b) {z : Int} {s1 s2 s3 bl : Int → Int} : ∃ sc go ba bl', m_X13_laysBelow N stt z s1 s2 s3 bl = some (cn g b, sc, go, ba, bl') ∧ RwA g b sc go ba ∧ BlA g b bl' := by
  obtain ⟨sc1, go1, ba1, lr1, hr⟩ := laysRows_ok (z := z) (sc := s1) (go := s2) (ba := s3) hN ok hst
  obtain ⟨bl', q1, q2⟩ := laysBelow_b14_ok (N := N) (stt := stt) ok hr N bl 0 0 0 0 (Int.le_refl 0) (by decide) (by omega) (fun c c0 c1 => by omega) (fun _ => ⟨rfl, rfl, rfl⟩)
  refine ⟨sc1, go1, ba1, bl', ?_, hr, q2⟩
  rw [m_X13_laysBelow]
  refine bd_ok (lr1) ?_
  dsimp only
  exact q1
/-- the cost of two cuts, by rows -/
def kst (g b : Int → Int) (x y r i j : Int) : Int := x * cG g b i + y * (cB g b (cn g b) - cB g b j) + r * (cG g b j - cG g b i + cB g b j - cB g b i)
theorem kst_in (ok : okP g b) {x y r i j : Int} (hx : 0 ≤ x ∧ x ≤ 999) (hy : 0 ≤ y ∧ y ≤ 999) (hr : 0 ≤ r ∧ r ≤ 999) (h0 : 0 ≤ i) (hij : i ≤ j) (hj : j ≤ cn g b) : 0 ≤ kst g b x y r i j ∧ kst g b x y r i j ≤ 36000000 := by
  have b1 := cG_b ok h0 (by omega)
  have b2 := cG_b ok (i := j) (by omega) hj
  have b3 := cG_b ok (cn_0 g b) (Int.le_refl _)
  have m1 := cG_m ok h0 hij hj
  have m2 := cB_m ok h0 hij hj
  have m3 := cB_m ok (i := j) (j := cn g b) (by omega) hj (Int.le_refl _)
  have p1 := mul_bd (a := x) (b := cG g b i) (A := 999) (B := 11880) hx (by omega)
  have p2 := mul_bd (a := y) (b := cB g b (cn g b) - cB g b j) (A := 999) (B := 11880) hy (by omega)
  have p3 := mul_bd (a := r) (b := cG g b j - cG g b i + cB g b j - cB g b i) (A := 999) (B := 11880) hr (by omega)
  unfold kst
  omega
theorem costOf_ok {N : Nat} {stt bl : Int → Int} (hb : BlA g b bl) {x y r c d : Int} (h5 : stt 3205 = r) (hx : 0 ≤ x ∧ x ≤ 999) (hy : 0 ≤ y ∧ y ≤ 999) (hr : 0 ≤ r ∧ r ≤ 999) (hc : 0 ≤ c ∧ c ≤ 1000) (hd : 0 ≤ d ∧ d ≤ 1000) : m_X13_costOf N stt bl c d x y = some (kst g b x y r (lb g b c) (lb g b d)) := by
  obtain ⟨a1, a2⟩ := hb c hc.1 hc.2
  obtain ⟨a3, a4⟩ := hb d hd.1 hd.2
  have e : m_X13_allBad N bl = some (bl 2001) := rfl
  rw [m_X13_costOf, h5, a1, a2, a3, a4]
  repeat (first | (with_reducible refine gd_ok ?_ ?_; focus (first | omega | assumption | ((repeat' refine And.intro ?_ ?_) <;> first | omega | assumption) | fail)) | (with_reducible refine ip_ok ?_ ?_; focus (first | omega | assumption | ((repeat' refine And.intro ?_ ?_) <;> first | omega | assumption) | fail)) | (with_reducible refine in_ok ?_ ?_; focus (first | omega | assumption | ((repeat' refine And.intro ?_ ?_) <;> first | omega | assumption) | fail)) | (rw [e, so_bd]; try dsimp only) | (rw [so_bd]; try dsimp only))
  rw [hb.all.2]
  rfl
theorem bestCut_b5_ok {N : Nat} {stt bl : Int → Int} (ok : okP g b) (hb : BlA g b bl) {x y r : Int} (h5 : stt 3205 = r) (hx : 0 ≤ x ∧ x ≤ 999) (hy : 0 ≤ y ∧ y ≤ 999) (hr : 0 ≤ r ∧ r ≤ 999) : ∀ (f n : Nat) (y3 y4 : Int), y3 = am (fun c => kst g b x y r (lb g b c) (lb g b c)) n → y4 = (n : Int) + 1 → n ≤ 1000 → 1000 - n < f → m_X13_bestCut_b5 N stt bl x y f y3 y4 = some (am (fun c => kst g b x y r (lb g b c) (lb g b c)) 1000) := by
  intro f
  induction f with
  | zero => intro n y3 y4 _ _ _ h; omega
  | succ f ih =>
    intro n y3 y4 h3 h4 hn hf
    rw [m_X13_bestCut_b5]
    have ai := am_in (fun c => kst g b x y r (lb g b c) (lb g b c)) n
    by_cases c : 1000 < y4
    · have e : n = 1000 := by omega
      subst e
      repeat (first | (with_reducible refine gd_ok ?_ ?_; focus (first | omega | assumption | ((repeat' refine And.intro ?_ ?_) <;> first | omega | assumption) | fail)) | (with_reducible refine ip_ok ?_ ?_; focus (first | omega | assumption | ((repeat' refine And.intro ?_ ?_) <;> first | omega | assumption) | fail)) | (with_reducible refine in_ok ?_ ?_; focus (first | omega | assumption | ((repeat' refine And.intro ?_ ?_) <;> first | omega | assumption) | fail)) | (rw [so_bd]; try dsimp only))
      rw [h3]
    · have l4 := lb_in (g := g) (b := b) (c := y4) (by omega)
      have l3 := lb_in (g := g) (b := b) (c := y3) (by omega)
      have k4 := kst_in ok hx hy hr l4.1 (Int.le_refl _) l4.2
      have k3 := kst_in ok hx hy hr l3.1 (Int.le_refl _) l3.2
      have d4 := costOf_ok (N := N) hb h5 hx hy hr (c := y4) (d := y4) ⟨by omega, by omega⟩ ⟨by omega, by omega⟩
      have d3 := costOf_ok (N := N) hb h5 hx hy hr (c := y3) (d := y3) ⟨by omega, by omega⟩ ⟨by omega, by omega⟩
      have es : am (fun c => kst g b x y r (lb g b c) (lb g b c)) (n + 1) = if kst g b x y r (lb g b y4) (lb g b y4) < kst g b x y r (lb g b y3) (lb g b y3) then y4 else y3 := by rw [h3, h4]; rfl
      by_cases q : kst g b x y r (lb g b y3) (lb g b y3) ≤ kst g b x y r (lb g b y4) (lb g b y4)
      · repeat (first | (with_reducible refine gd_ok ?_ ?_; focus (first | omega | assumption | ((repeat' refine And.intro ?_ ?_) <;> first | omega | assumption) | fail)) | (with_reducible refine ip_ok ?_ ?_; focus (first | omega | assumption | ((repeat' refine And.intro ?_ ?_) <;> first | omega | assumption) | fail)) | (with_reducible refine in_ok ?_ ?_; focus (first | omega | assumption | ((repeat' refine And.intro ?_ ?_) <;> first | omega | assumption) | fail)) | (rw [d4, so_bd]; try dsimp only) | (rw [d3, so_bd]; try dsimp only) | (rw [so_bd]; try dsimp only))
        rw [m_X13_bestCut_b41]
        exact ih (n + 1) y3 (y4 + 1) (by rw [es, if_neg (by omega)]) (by omega) (by omega) (by omega)
      · repeat (first | (with_reducible refine gd_ok ?_ ?_; focus (first | omega | assumption | ((repeat' refine And.intro ?_ ?_) <;> first | omega | assumption) | fail)) | (with_reducible refine ip_ok ?_ ?_; focus (first | omega | assumption | ((repeat' refine And.intro ?_ ?_) <;> first | omega | assumption) | fail)) | (with_reducible refine in_ok ?_ ?_; focus (first | omega | assumption | ((repeat' refine And.intro ?_ ?_) <;> first | omega | assumption) | fail)) | (rw [d4, so_bd]; try dsimp only) | (rw [d3, so_bd]; try dsimp only) | (rw [so_bd]; try dsimp only))
        rw [m_X13_bestCut_b41]
        exact ih (n + 1) y4 (y4 + 1) (by rw [es, if_pos (by omega)]) (by omega) (by omega) (by omega)
theorem bestCut_ok {N : Nat} (hN : 40000 ≤ N) {stt bl : Int → Int} (ok : okP g b) (hb : BlA g b bl) {x y r : Int} (h5 : stt 3205 = r) (hx : 0 ≤ x ∧ x ≤ 999) (hy : 0 ≤ y ∧ y ≤ 999) (hr : 0 ≤ r ∧ r ≤ 999) : m_X13_bestCut N stt bl x y = some (cutB g b (am (fun i => kst g b x y r i i) (cn g b).toNat)) := by
  have e := am_lb (g := g) (b := b) (fun i => kst g b x y r i i) 1000 (Nat.le_refl _)
  have e2 : lb g b ((1000 : Nat) : Int) = cn g b := rfl
  rw [e2] at e
  rw [← e]
  exact bestCut_b5_ok ok hb h5 hx hy hr N 0 0 1 rfl rfl (by decide) (by omega)
theorem costBehind_ok {N : Nat} {gA bA : Int → Int} (ok : okP g b) (h : AhA g b gA bA) {x y r i : Int} (h0 : 0 ≤ i) (hi : i ≤ cn g b) : m_X8_costBehind N (cn g b) gA bA i x y = some (kst g b x y r i i) := by
  have ok2 := ok.2.1
  obtain ⟨a1, a2⟩ := h i h0 hi
  have e : kst g b x y r i i = x * cG g b i + y * (cB g b (cn g b) - cB g b i) := by
    have z : cG g b i - cG g b i + cB g b i - cB g b i = 0 := by omega
    unfold kst
    rw [z, Int.mul_zero, Int.add_zero]
  rw [m_X8_costBehind, a1, a2, e]
  repeat (first | (with_reducible refine gd_ok ?_ ?_; focus (first | omega | assumption | ((repeat' refine And.intro ?_ ?_) <;> first | omega | assumption) | fail)) | (with_reducible refine ip_ok ?_ ?_; focus (first | omega | assumption | ((repeat' refine And.intro ?_ ?_) <;> first | omega | assumption) | fail)) | (with_reducible refine in_ok ?_ ?_; focus (first | omega | assumption | ((repeat' refine And.intro ?_ ?_) <;> first | omega | assumption) | fail)) | (rw [bads_ok ok h, so_bd]; try dsimp only) | (rw [so_bd]; try dsimp only))
  all_goals rfl
theorem cheapestR_b5_ok {N : Nat} {gA bA : Int → Int} (ok : okP g b) (h : AhA g b gA bA) {x y r : Int} (hx : 0 ≤ x ∧ x ≤ 999) (hy : 0 ≤ y ∧ y ≤ 999) (hr : 0 ≤ r ∧ r ≤ 999) : ∀ (f n : Nat) (y3 y4 : Int), y3 = am (fun i => kst g b x y r i i) n → y4 = (n : Int) + 1 → (n : Int) ≤ cn g b → ((cn g b) - n).toNat < f → m_X8_cheapest_b5 N (cn g b) gA bA x y f y3 y4 = some (am (fun i => kst g b x y r i i) (cn g b).toNat) := by
  have ok2 := ok.2.1
  intro f
  induction f with
  | zero => intro n y3 y4 _ _ _ h; omega
  | succ f ih =>
    intro n y3 y4 h3 h4 hn hf
    rw [m_X8_cheapest_b5]
    have ai := am_in (fun i => kst g b x y r i i) n
    by_cases c : cn g b < y4
    · have e : (cn g b).toNat = n := by omega
      repeat (first | (with_reducible refine gd_ok ?_ ?_; focus (first | omega | assumption | ((repeat' refine And.intro ?_ ?_) <;> first | omega | assumption) | fail)) | (with_reducible refine ip_ok ?_ ?_; focus (first | omega | assumption | ((repeat' refine And.intro ?_ ?_) <;> first | omega | assumption) | fail)) | (with_reducible refine in_ok ?_ ?_; focus (first | omega | assumption | ((repeat' refine And.intro ?_ ?_) <;> first | omega | assumption) | fail)) | (rw [so_bd]; try dsimp only))
      rw [e, h3]
    · have k4 := kst_in ok hx hy hr (i := y4) (j := y4) (by omega) (Int.le_refl _) (by omega)
      have k3 := kst_in ok hx hy hr (i := y3) (j := y3) (by omega) (Int.le_refl _) (by omega)
      have d4 := costBehind_ok (N := N) ok h (x := x) (y := y) (r := r) (i := y4) (by omega) (by omega)
      have d3 := costBehind_ok (N := N) ok h (x := x) (y := y) (r := r) (i := y3) (by omega) (by omega)
      have es : am (fun i => kst g b x y r i i) (n + 1) = if kst g b x y r y4 y4 < kst g b x y r y3 y3 then y4 else y3 := by rw [h3, h4]; rfl
      by_cases q : kst g b x y r y3 y3 ≤ kst g b x y r y4 y4
      · repeat (first | (with_reducible refine gd_ok ?_ ?_; focus (first | omega | assumption | ((repeat' refine And.intro ?_ ?_) <;> first | omega | assumption) | fail)) | (with_reducible refine ip_ok ?_ ?_; focus (first | omega | assumption | ((repeat' refine And.intro ?_ ?_) <;> first | omega | assumption) | fail)) | (with_reducible refine in_ok ?_ ?_; focus (first | omega | assumption | ((repeat' refine And.intro ?_ ?_) <;> first | omega | assumption) | fail)) | (rw [d4, so_bd]; try dsimp only) | (rw [d3, so_bd]; try dsimp only) | (rw [so_bd]; try dsimp only))
        rw [m_X8_cheapest_b35]
        exact ih (n + 1) y3 (y4 + 1) (by rw [es, if_neg (by omega)]) (by omega) (by omega) (by omega)
      · repeat (first | (with_reducible refine gd_ok ?_ ?_; focus (first | omega | assumption | ((repeat' refine And.intro ?_ ?_) <;> first | omega | assumption) | fail)) | (with_reducible refine ip_ok ?_ ?_; focus (first | omega | assumption | ((repeat' refine And.intro ?_ ?_) <;> first | omega | assumption) | fail)) | (with_reducible refine in_ok ?_ ?_; focus (first | omega | assumption | ((repeat' refine And.intro ?_ ?_) <;> first | omega | assumption) | fail)) | (rw [d4, so_bd]; try dsimp only) | (rw [d3, so_bd]; try dsimp only) | (rw [so_bd]; try dsimp only))
        rw [m_X8_cheapest_b35]
        exact ih (n + 1) y4 (y4 + 1) (by rw [es, if_pos (by omega)]) (by omega) (by omega) (by omega)
theorem cheapestR_ok {N : Nat} (hN : 40000 ≤ N) {gA bA : Int → Int} (ok : okP g b) (h : AhA g b gA bA) {x y r : Int} (hx : 0 ≤ x ∧ x ≤ 999) (hy : 0 ≤ y ∧ y ≤ 999) (hr : 0 ≤ r ∧ r ≤ 999) : m_X8_cheapest N (cn g b) gA bA x y = some (am (fun i => kst g b x y r i i) (cn g b).toNat) := by
  have ok2 := ok.2.1
  have n0 := cn_0 g b
  exact cheapestR_b5_ok ok h hx hy hr N 0 0 1 rfl rfl (by omega) (by omega)
theorem cutBehind_ok {N : Nat} {sc go ba : Int → Int} (ok : okP g b) (hr : RwA g b sc go ba) {i : Int} (h0 : 0 ≤ i) (hi : i ≤ cn g b) : m_X8_cutBehind N sc i = some (cutB g b i) := by
  have ok2 := ok.2.1
  rw [m_X8_cutBehind]
  by_cases c : i = 0
  · rw [show cutB g b i = 0 from if_pos c]
    repeat (first | (with_reducible refine gd_ok ?_ ?_; focus (first | omega | assumption | ((repeat' refine And.intro ?_ ?_) <;> first | omega | assumption) | fail)) | (with_reducible refine ip_ok ?_ ?_; focus (first | omega | assumption | ((repeat' refine And.intro ?_ ?_) <;> first | omega | assumption) | fail)) | (with_reducible refine in_ok ?_ ?_; focus (first | omega | assumption | ((repeat' refine And.intro ?_ ?_) <;> first | omega | assumption) | fail)) | (rw [so_bd]; try dsimp only))
    all_goals rfl
  · rw [show cutB g b i = cs g b (i - 1) + 1 from if_neg c, ← (hr (i - 1) (by omega) (by omega)).1]
    repeat (first | (with_reducible refine gd_ok ?_ ?_; focus (first | omega | assumption | ((repeat' refine And.intro ?_ ?_) <;> first | omega | assumption) | fail)) | (with_reducible refine ip_ok ?_ ?_; focus (first | omega | assumption | ((repeat' refine And.intro ?_ ?_) <;> first | omega | assumption) | fail)) | (with_reducible refine in_ok ?_ ?_; focus (first | omega | assumption | ((repeat' refine And.intro ?_ ?_) <;> first | omega | assumption) | fail)) | (rw [so_bd]; try dsimp only))
    all_goals rfl
end
section
variable {N : Nat}
theorem isCut1 {c : Int} (h : 0 ≤ c ∧ c ≤ 1000) : m_X12_isCut N c = some 1 := by
  rw [m_X12_isCut]
  repeat (first | (with_reducible refine gd_ok ?_ ?_; focus (first | omega | assumption | ((repeat' refine And.intro ?_ ?_) <;> first | omega | assumption) | fail)) | (with_reducible refine ip_ok ?_ ?_; focus (first | omega | assumption | ((repeat' refine And.intro ?_ ?_) <;> first | omega | assumption) | fail)) | (with_reducible refine in_ok ?_ ?_; focus (first | omega | assumption | ((repeat' refine And.intro ?_ ?_) <;> first | omega | assumption) | fail)) | (rw [so_bd]; try dsimp only))
  all_goals rfl
theorem isCut0 {c : Int} (hr : rI c) (h : ¬ (0 ≤ c ∧ c ≤ 1000)) : m_X12_isCut N c = some 0 := by
  rw [m_X12_isCut]
  by_cases d : c < 0
  · repeat (first | (with_reducible refine gd_ok ?_ ?_; focus (first | omega | assumption | ((repeat' refine And.intro ?_ ?_) <;> first | omega | assumption) | fail)) | (with_reducible refine ip_ok ?_ ?_; focus (first | omega | assumption | ((repeat' refine And.intro ?_ ?_) <;> first | omega | assumption) | fail)) | (with_reducible refine in_ok ?_ ?_; focus (first | omega | assumption | ((repeat' refine And.intro ?_ ?_) <;> first | omega | assumption) | fail)) | (rw [so_bd]; try dsimp only))
    all_goals rfl
  · repeat (first | (with_reducible refine gd_ok ?_ ?_; focus (first | omega | assumption | ((repeat' refine And.intro ?_ ?_) <;> first | omega | assumption) | fail)) | (with_reducible refine ip_ok ?_ ?_; focus (first | omega | assumption | ((repeat' refine And.intro ?_ ?_) <;> first | omega | assumption) | fail)) | (with_reducible refine in_ok ?_ ?_; focus (first | omega | assumption | ((repeat' refine And.intro ?_ ?_) <;> first | omega | assumption) | fail)) | (rw [so_bd]; try dsimp only))
    all_goals rfl
theorem rCut1 {c : Int} (h : 0 ≤ c ∧ c ≤ 1000) : m_X13_isCut N c = some 1 := by
  rw [m_X13_isCut]
  repeat (first | (with_reducible refine gd_ok ?_ ?_; focus (first | omega | assumption | ((repeat' refine And.intro ?_ ?_) <;> first | omega | assumption) | fail)) | (with_reducible refine ip_ok ?_ ?_; focus (first | omega | assumption | ((repeat' refine And.intro ?_ ?_) <;> first | omega | assumption) | fail)) | (with_reducible refine in_ok ?_ ?_; focus (first | omega | assumption | ((repeat' refine And.intro ?_ ?_) <;> first | omega | assumption) | fail)) | (rw [in1 ⟨by omega, by omega⟩ ⟨by decide, by decide⟩ ⟨by decide, by decide⟩ ⟨h.1, h.2⟩, so_bd]; try dsimp only) | (rw [so_bd]; try dsimp only))
  all_goals rfl
theorem rCut0 {c : Int} (hr : rI c) (h : ¬ (0 ≤ c ∧ c ≤ 1000)) : m_X13_isCut N c = some 0 := by
  rw [m_X13_isCut]
  repeat (first | (with_reducible refine gd_ok ?_ ?_; focus (first | omega | assumption | ((repeat' refine And.intro ?_ ?_) <;> first | omega | assumption) | fail)) | (with_reducible refine ip_ok ?_ ?_; focus (first | omega | assumption | ((repeat' refine And.intro ?_ ?_) <;> first | omega | assumption) | fail)) | (with_reducible refine in_ok ?_ ?_; focus (first | omega | assumption | ((repeat' refine And.intro ?_ ?_) <;> first | omega | assumption) | fail)) | (rw [in0 (rI_L hr) ⟨by decide, by decide⟩ ⟨by decide, by decide⟩ h, so_bd]; try dsimp only) | (rw [so_bd]; try dsimp only))
  all_goals rfl
theorem isCost1 {c : Int} (h : 0 ≤ c ∧ c ≤ 999) : m_X12_isCost N c = some 1 := by
  rw [m_X12_isCost]
  repeat (first | (with_reducible refine gd_ok ?_ ?_; focus (first | omega | assumption | ((repeat' refine And.intro ?_ ?_) <;> first | omega | assumption) | fail)) | (with_reducible refine ip_ok ?_ ?_; focus (first | omega | assumption | ((repeat' refine And.intro ?_ ?_) <;> first | omega | assumption) | fail)) | (with_reducible refine in_ok ?_ ?_; focus (first | omega | assumption | ((repeat' refine And.intro ?_ ?_) <;> first | omega | assumption) | fail)) | (rw [so_bd]; try dsimp only))
  all_goals rfl
theorem isCost0 {c : Int} (hr : rI c) (h : ¬ (0 ≤ c ∧ c ≤ 999)) : m_X12_isCost N c = some 0 := by
  rw [m_X12_isCost]
  by_cases d : c < 0
  · repeat (first | (with_reducible refine gd_ok ?_ ?_; focus (first | omega | assumption | ((repeat' refine And.intro ?_ ?_) <;> first | omega | assumption) | fail)) | (with_reducible refine ip_ok ?_ ?_; focus (first | omega | assumption | ((repeat' refine And.intro ?_ ?_) <;> first | omega | assumption) | fail)) | (with_reducible refine in_ok ?_ ?_; focus (first | omega | assumption | ((repeat' refine And.intro ?_ ?_) <;> first | omega | assumption) | fail)) | (rw [so_bd]; try dsimp only))
    all_goals rfl
  · repeat (first | (with_reducible refine gd_ok ?_ ?_; focus (first | omega | assumption | ((repeat' refine And.intro ?_ ?_) <;> first | omega | assumption) | fail)) | (with_reducible refine ip_ok ?_ ?_; focus (first | omega | assumption | ((repeat' refine And.intro ?_ ?_) <;> first | omega | assumption) | fail)) | (with_reducible refine in_ok ?_ ?_; focus (first | omega | assumption | ((repeat' refine And.intro ?_ ?_) <;> first | omega | assumption) | fail)) | (rw [so_bd]; try dsimp only))
    all_goals rfl
end
