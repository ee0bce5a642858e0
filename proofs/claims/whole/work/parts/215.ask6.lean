/-! the same answer: pairs in order, the greatest distance, the hull -/
section
variable {N : Nat} {g b : Int → Int}
def hvs (g b : Int → Int) (n : Int) : Int := sI (fun i => cg g b i * (2 * cB g b i + cb g b i)) n
theorem hv_t (ok : okP g b) {i : Int} (h0 : 0 ≤ i) (hi : i < cn g b) : 0 ≤ cg g b i * (2 * cB g b i + cb g b i) ∧ cg g b i * (2 * cB g b i + cb g b i) ≤ 423403200 := by
  have a := cg_in ok h0 hi
  have c := cG_b ok h0 (by omega)
  exact mul_bd (A := 11880) (B := 35640) (by omega) (by omega)
theorem hv_b (ok : okP g b) {n : Int} (h0 : 0 ≤ n) (hn : n ≤ cn g b) : 0 ≤ hvs g b n ∧ hvs g b n ≤ 25404192000 := by
  have ok2 := ok.2.1
  have h := sI_ab (K := 423403200) (f := fun i => cg g b i * (2 * cB g b i + cb g b i)) (n := cn g b) (fun j j0 j1 => hv_t ok j0 j1) (Int.le_refl 0) n h0 hn
  have e : sI (fun i => cg g b i * (2 * cB g b i + cb g b i)) 0 = 0 := rfl
  rw [e] at h
  unfold hvs
  omega
theorem halves_b4_ok (ok : okP g b) {sc go ba gA bA : Int → Int} (hr : RwA g b sc go ba) (h : AhA g b gA bA) : ∀ (f : Nat) (y1 y3 : Int), 0 ≤ y3 → y3 ≤ cn g b → y1 = hvs g b y3 → (cn g b - y3).toNat < f → m_X8_halvesInOrder_b4 N (cn g b) go ba bA f y1 y3 = some (hvs g b (cn g b)) := by
  have ok2 := ok.2.1
  intro f
  induction f with
  | zero => intro y1 y3 _ _ _ h; omega
  | succ f ih =>
    intro y1 y3 h0 h1 hy hf
    rw [m_X8_halvesInOrder_b4]
    by_cases c : cn g b ≤ y3
    · repeat (first | (with_reducible refine gd_ok ?_ ?_; focus (first | omega | assumption | ((repeat' refine And.intro ?_ ?_) <;> first | omega | assumption) | fail)) | (with_reducible refine ip_ok ?_ ?_; focus (first | omega | assumption | ((repeat' refine And.intro ?_ ?_) <;> first | omega | assumption) | fail)) | (with_reducible refine in_ok ?_ ?_; focus (first | omega | assumption | ((repeat' refine And.intro ?_ ?_) <;> first | omega | assumption) | fail)) | (rw [so_bd]; try dsimp only))
      rw [hy, show y3 = cn g b by omega]
    · obtain ⟨-, a1, a2⟩ := hr y3 h0 (by omega)
      have a := cg_in ok h0 (show y3 < cn g b by omega)
      have cc := cG_b ok h0 h1
      rw [a1, a2, (h y3 h0 h1).2]
      repeat (first | (with_reducible refine gd_ok ?_ ?_; focus (first | omega | assumption | ((repeat' refine And.intro ?_ ?_) <;> first | omega | assumption) | fail)) | (with_reducible refine ip_ok ?_ ?_; focus (first | omega | assumption | ((repeat' refine And.intro ?_ ?_) <;> first | omega | assumption) | fail)) | (with_reducible refine in_ok ?_ ?_; focus (first | omega | assumption | ((repeat' refine And.intro ?_ ?_) <;> first | omega | assumption) | fail)) | (rw [so_bd]; try dsimp only))
      refine ih _ (y3 + 1) (by omega) (by omega) ?_ (by omega)
      rw [hy]
      exact (sI_s _ h0).symm
theorem auc_b30_ok (hN : 40000 ≤ N) (ok : okP g b) {stt sc go ba : Int → Int} (hr : RwA g b sc go ba) {w a : Int} (ha : m_X13_told N (hvs g b (cn g b)) (2 * cG g b (cn g b) * cB g b (cn g b)) w = some a) : ∀ (f : Nat) (y1 y3 : Int), 0 ≤ y3 → y3 ≤ cn g b → y1 = hvs g b y3 → (cn g b - y3).toNat < f → Rt (m_X13_auc_b30 N stt w (cn g b) sc go ba f y1 y3) a := by
  have ok2 := ok.2.1
  have n0 := cn_0 g b
  intro f
  induction f with
  | zero => intro y1 y3 _ _ _ h; omega
  | succ f ih =>
    intro y1 y3 h0 h1 hy hf
    rw [m_X13_auc_b30]
    by_cases c : cn g b ≤ y3
    · have e : y1 = hvs g b (cn g b) := by rw [hy, show y3 = cn g b by omega]
      rw [e]
      repeat (first | (with_reducible refine Rt.gd ?_ ?_; focus (first | omega | assumption | ((repeat' refine And.intro ?_ ?_) <;> first | omega | assumption) | fail)) | (with_reducible refine Rt.ip ?_ ?_; focus (first | omega | assumption | ((repeat' refine And.intro ?_ ?_) <;> first | omega | assumption) | fail)) | (with_reducible refine Rt.in_ ?_ ?_; focus (first | omega | assumption | ((repeat' refine And.intro ?_ ?_) <;> first | omega | assumption) | fail)) | (rw [of00 hN ok hr n0 (Int.le_refl _), so_bd]; try dsimp only) | (rw [of01 hN ok hr n0 (Int.le_refl _), so_bd]; try dsimp only) | (rw [ha, so_bd]; try dsimp only) | (rw [so_bd]; try dsimp only))
      all_goals exact Rt.so
    · obtain ⟨-, a1, a2⟩ := hr y3 h0 (by omega)
      have a := cg_in ok h0 (show y3 < cn g b by omega)
      have cc := cG_b ok h0 h1
      have m := mul_bd (a := cg g b y3) (b := cb g b y3) (A := 11880) (B := 11880) (by omega) (by omega)
      rw [a1, a2]
      repeat (first | (with_reducible refine Rt.gd ?_ ?_; focus (first | omega | assumption | ((repeat' refine And.intro ?_ ?_) <;> first | omega | assumption) | fail)) | (with_reducible refine Rt.ip ?_ ?_; focus (first | omega | assumption | ((repeat' refine And.intro ?_ ?_) <;> first | omega | assumption) | fail)) | (with_reducible refine Rt.in_ ?_ ?_; focus (first | omega | assumption | ((repeat' refine And.intro ?_ ?_) <;> first | omega | assumption) | fail)) | (rw [of01 hN ok hr h0 h1, so_bd]; try dsimp only) | (rw [so_bd]; try dsimp only))
      refine ih _ (y3 + 1) (by omega) (by omega) ?_ (by omega)
      have es : hvs g b (y3 + 1) = hvs g b y3 + cg g b y3 * (2 * cB g b y3 + cb g b y3) := sI_s _ h0
      have e2 : cg g b y3 * (2 * cB g b y3 + cb g b y3) = 2 * cg g b y3 * cB g b y3 + cg g b y3 * cb g b y3 := by
        rw [Int.mul_add]
        congr 1
        rw [← Int.mul_assoc, Int.mul_comm (cg g b y3) 2]
      rw [es, e2, hy]
theorem hasBoth1 (ok : okP g b) {gA bA : Int → Int} (h : AhA g b gA bA) (h1 : 0 < cG g b (cn g b)) (h2 : 0 < cB g b (cn g b)) : m_X8_hasBoth N (cn g b) gA bA = some 1 := by
  have c := cG_b ok (cn_0 g b) (Int.le_refl _)
  rw [m_X8_hasBoth]
  repeat (first | (with_reducible refine gd_ok ?_ ?_; focus (first | omega | assumption | ((repeat' refine And.intro ?_ ?_) <;> first | omega | assumption) | fail)) | (with_reducible refine ip_ok ?_ ?_; focus (first | omega | assumption | ((repeat' refine And.intro ?_ ?_) <;> first | omega | assumption) | fail)) | (with_reducible refine in_ok ?_ ?_; focus (first | omega | assumption | ((repeat' refine And.intro ?_ ?_) <;> first | omega | assumption) | fail)) | (rw [goods_ok ok h, so_bd]; try dsimp only) | (rw [bads_ok ok h, so_bd]; try dsimp only) | (rw [so_bd]; try dsimp only))
  all_goals rfl
theorem hasBoth0 (ok : okP g b) {gA bA : Int → Int} (h : AhA g b gA bA) (h1 : ¬ (0 < cG g b (cn g b) ∧ 0 < cB g b (cn g b))) : m_X8_hasBoth N (cn g b) gA bA = some 0 := by
  have c := cG_b ok (cn_0 g b) (Int.le_refl _)
  rw [m_X8_hasBoth]
  by_cases d : cG g b (cn g b) ≤ 0
  · repeat (first | (with_reducible refine gd_ok ?_ ?_; focus (first | omega | assumption | ((repeat' refine And.intro ?_ ?_) <;> first | omega | assumption) | fail)) | (with_reducible refine ip_ok ?_ ?_; focus (first | omega | assumption | ((repeat' refine And.intro ?_ ?_) <;> first | omega | assumption) | fail)) | (with_reducible refine in_ok ?_ ?_; focus (first | omega | assumption | ((repeat' refine And.intro ?_ ?_) <;> first | omega | assumption) | fail)) | (rw [goods_ok ok h, so_bd]; try dsimp only) | (rw [bads_ok ok h, so_bd]; try dsimp only) | (rw [so_bd]; try dsimp only))
    all_goals rfl
  · repeat (first | (with_reducible refine gd_ok ?_ ?_; focus (first | omega | assumption | ((repeat' refine And.intro ?_ ?_) <;> first | omega | assumption) | fail)) | (with_reducible refine ip_ok ?_ ?_; focus (first | omega | assumption | ((repeat' refine And.intro ?_ ?_) <;> first | omega | assumption) | fail)) | (with_reducible refine in_ok ?_ ?_; focus (first | omega | assumption | ((repeat' refine And.intro ?_ ?_) <;> first | omega | assumption) | fail)) | (rw [goods_ok ok h, so_bd]; try dsimp only) | (rw [bads_ok ok h, so_bd]; try dsimp only) | (rw [so_bd]; try dsimp only))
    all_goals rfl
theorem areBoth1 (hN : 40000 ≤ N) (ok : okP g b) {sc go ba : Int → Int} (hr : RwA g b sc go ba) (h1 : 0 < cG g b (cn g b)) (h2 : 0 < cB g b (cn g b)) : m_X13_areBoth N (cn g b) go ba = some 1 := by
  have c := cG_b ok (cn_0 g b) (Int.le_refl _)
  rw [m_X13_areBoth]
  repeat (first | (with_reducible refine gd_ok ?_ ?_; focus (first | omega | assumption | ((repeat' refine And.intro ?_ ?_) <;> first | omega | assumption) | fail)) | (with_reducible refine ip_ok ?_ ?_; focus (first | omega | assumption | ((repeat' refine And.intro ?_ ?_) <;> first | omega | assumption) | fail)) | (with_reducible refine in_ok ?_ ?_; focus (first | omega | assumption | ((repeat' refine And.intro ?_ ?_) <;> first | omega | assumption) | fail)) | (rw [of00 hN ok hr (cn_0 g b) (Int.le_refl _), so_bd]; try dsimp only) | (rw [of01 hN ok hr (cn_0 g b) (Int.le_refl _), so_bd]; try dsimp only) | (rw [so_bd]; try dsimp only))
  all_goals rfl
theorem areBoth0 (hN : 40000 ≤ N) (ok : okP g b) {sc go ba : Int → Int} (hr : RwA g b sc go ba) (h1 : ¬ (0 < cG g b (cn g b) ∧ 0 < cB g b (cn g b))) : m_X13_areBoth N (cn g b) go ba = some 0 := by
  have c := cG_b ok (cn_0 g b) (Int.le_refl _)
  rw [m_X13_areBoth]
  by_cases d : cG g b (cn g b) ≤ 0
  · repeat (first | (with_reducible refine gd_ok ?_ ?_; focus (first | omega | assumption | ((repeat' refine And.intro ?_ ?_) <;> first | omega | assumption) | fail)) | (with_reducible refine ip_ok ?_ ?_; focus (first | omega | assumption | ((repeat' refine And.intro ?_ ?_) <;> first | omega | assumption) | fail)) | (with_reducible refine in_ok ?_ ?_; focus (first | omega | assumption | ((repeat' refine And.intro ?_ ?_) <;> first | omega | assumption) | fail)) | (rw [of00 hN ok hr (cn_0 g b) (Int.le_refl _), so_bd]; try dsimp only) | (rw [of01 hN ok hr (cn_0 g b) (Int.le_refl _), so_bd]; try dsimp only) | (rw [so_bd]; try dsimp only))
    all_goals rfl
  · repeat (first | (with_reducible refine gd_ok ?_ ?_; focus (first | omega | assumption | ((repeat' refine And.intro ?_ ?_) <;> first | omega | assumption) | fail)) | (with_reducible refine ip_ok ?_ ?_; focus (first | omega | assumption | ((repeat' refine And.intro ?_ ?_) <;> first | omega | assumption) | fail)) | (with_reducible refine in_ok ?_ ?_; focus (first | omega | assumption | ((repeat' refine And.intro ?_ ?_) <;> first | omega | assumption) | fail)) | (rw [of00 hN ok hr (cn_0 g b) (Int.le_refl _), so_bd]; try dsimp only) | (rw [of01 hN ok hr (cn_0 g b) (Int.le_refl _), so_bd]; try dsimp only) | (rw [so_bd]; try dsimp only))
    all_goals rfl
theorem iabs_le {a K : Int} (h : -K ≤ a ∧ a ≤ K) : 0 ≤ iabs a ∧ iabs a ≤ K := by
  unfold iabs
  by_cases c : 0 < a
  · rw [if_pos c]; omega
  · rw [if_neg c]; omega
def apt (g b : Int → Int) (i : Int) : Int := iabs (cG g b (i + 1) * cB g b (cn g b) - cB g b (i + 1) * cG g b (cn g b))
theorem apt_d (ok : okP g b) {i : Int} (h0 : 0 ≤ i) (hi : i < cn g b) : -141134400 ≤ cG g b (i + 1) * cB g b (cn g b) - cB g b (i + 1) * cG g b (cn g b) ∧ cG g b (i + 1) * cB g b (cn g b) - cB g b (i + 1) * cG g b (cn g b) ≤ 141134400 := by
  have c := cG_b ok (cn_0 g b) (Int.le_refl _)
  have d := cG_b ok (i := i + 1) (by omega) (by omega)
  have m1 := mul_bd (a := cG g b (i + 1)) (b := cB g b (cn g b)) (A := 11880) (B := 11880) (by omega) (by omega)
  have m2 := mul_bd (a := cB g b (i + 1)) (b := cG g b (cn g b)) (A := 11880) (B := 11880) (by omega) (by omega)
  omega
theorem apt_in (ok : okP g b) {i : Int} (h0 : 0 ≤ i) (hi : i < cn g b) : 0 ≤ apt g b i ∧ apt g b i ≤ 141134400 := iabs_le (apt_d ok h0 hi)
theorem apart_ok (ok : okP g b) {gA bA : Int → Int} (h : AhA g b gA bA) {i : Int} (h0 : 0 ≤ i) (hi : i < cn g b) : m_X8_apart N (cn g b) gA bA i = some (apt g b i) := by
  have ok2 := ok.2.1
  have c := cG_b ok (cn_0 g b) (Int.le_refl _)
  have d := cG_b ok (i := i + 1) (by omega) (by omega)
  have q := apt_d ok h0 hi
  obtain ⟨a1, a2⟩ := h (i + 1) (by omega) (by omega)
  rw [m_X8_apart, a1, a2]
  repeat (first | (with_reducible refine gd_ok ?_ ?_; focus (first | omega | assumption | ((repeat' refine And.intro ?_ ?_) <;> first | omega | assumption) | fail)) | (with_reducible refine ip_ok ?_ ?_; focus (first | omega | assumption | ((repeat' refine And.intro ?_ ?_) <;> first | omega | assumption) | fail)) | (with_reducible refine in_ok ?_ ?_; focus (first | omega | assumption | ((repeat' refine And.intro ?_ ?_) <;> first | omega | assumption) | fail)) | (rw [goods_ok ok h, so_bd]; try dsimp only) | (rw [bads_ok ok h, so_bd]; try dsimp only) | (rw [so_bd]; try dsimp only))
  all_goals rfl
theorem farthest_b4_ok (ok : okP g b) {gA bA : Int → Int} (h : AhA g b gA bA) : ∀ (f n : Nat) (y1 y2 : Int), y1 = am (fun i => - apt g b i) n → y2 = (n : Int) + 1 → y2 ≤ cn g b → (cn g b - y2).toNat < f → m_X8_farthest_b4 N (cn g b) gA bA f y1 y2 = some (am (fun i => - apt g b i) (cn g b - 1).toNat) := by
  have ok2 := ok.2.1
  intro f
  induction f with
  | zero => intro n y1 y2 _ _ _ h; omega
  | succ f ih =>
    intro n y1 y2 h1 h2 h3 hf
    have ai := am_in (fun i => - apt g b i) n
    rw [m_X8_farthest_b4]
    by_cases c : cn g b ≤ y2
    · repeat (first | (with_reducible refine gd_ok ?_ ?_; focus (first | omega | assumption | ((repeat' refine And.intro ?_ ?_) <;> first | omega | assumption) | fail)) | (with_reducible refine ip_ok ?_ ?_; focus (first | omega | assumption | ((repeat' refine And.intro ?_ ?_) <;> first | omega | assumption) | fail)) | (with_reducible refine in_ok ?_ ?_; focus (first | omega | assumption | ((repeat' refine And.intro ?_ ?_) <;> first | omega | assumption) | fail)) | (rw [so_bd]; try dsimp only))
      rw [h1, show (cn g b - 1).toNat = n by omega]
    · have q1 := apt_in ok (i := y1) (by omega) (by omega)
      have q2 := apt_in ok (i := y2) (by omega) (by omega)
      have es : am (fun i => - apt g b i) (n + 1) = if - apt g b y2 < - apt g b y1 then y2 else y1 := by rw [h1, h2]; rfl
      by_cases d : apt g b y2 ≤ apt g b y1
      · repeat (first | (with_reducible refine gd_ok ?_ ?_; focus (first | omega | assumption | ((repeat' refine And.intro ?_ ?_) <;> first | omega | assumption) | fail)) | (with_reducible refine ip_ok ?_ ?_; focus (first | omega | assumption | ((repeat' refine And.intro ?_ ?_) <;> first | omega | assumption) | fail)) | (with_reducible refine in_ok ?_ ?_; focus (first | omega | assumption | ((repeat' refine And.intro ?_ ?_) <;> first | omega | assumption) | fail)) | (rw [apart_ok ok h (i := y2) (by omega) (by omega), so_bd]; try dsimp only) | (rw [apart_ok ok h (i := y1) (by omega) (by omega), so_bd]; try dsimp only) | (rw [so_bd]; try dsimp only))
        exact ih (n + 1) y1 (y2 + 1) (by rw [es, if_neg (by omega)]) (by omega) (by omega) (by omega)
      · repeat (first | (with_reducible refine gd_ok ?_ ?_; focus (first | omega | assumption | ((repeat' refine And.intro ?_ ?_) <;> first | omega | assumption) | fail)) | (with_reducible refine ip_ok ?_ ?_; focus (first | omega | assumption | ((repeat' refine And.intro ?_ ?_) <;> first | omega | assumption) | fail)) | (with_reducible refine in_ok ?_ ?_; focus (first | omega | assumption | ((repeat' refine And.intro ?_ ?_) <;> first | omega | assumption) | fail)) | (rw [apart_ok ok h (i := y2) (by omega) (by omega), so_bd]; try dsimp only) | (rw [apart_ok ok h (i := y1) (by omega) (by omega), so_bd]; try dsimp only) | (rw [so_bd]; try dsimp only))
        exact ih (n + 1) y2 (y2 + 1) (by rw [es, if_pos (by omega)]) (by omega) (by omega) (by omega)
theorem ks_b61_ok (hN : 40000 ≤ N) (ok : okP g b) {stt sc go ba : Int → Int} (hr : RwA g b sc go ba) {w a : Int} (hw : rI w) (ha : (w = 2 → a = cs g b (am (fun i => - apt g b i) (cn g b - 1).toNat)) ∧ (w ≠ 2 → m_X13_told N (apt g b (am (fun i => - apt g b i) (cn g b - 1).toNat)) (cG g b (cn g b) * cB g b (cn g b)) w = some a)) : ∀ (f n : Nat) (y6 y8 y9 : Int), y6 = apt g b (am (fun i => - apt g b i) n) → y8 = cs g b (am (fun i => - apt g b i) n) → y9 = (n : Int) + 1 → y9 ≤ cn g b → (cn g b - y9).toNat < f → Rt (m_X13_ks_b61 N stt w (cn g b) sc go ba (cG g b (cn g b)) (cB g b (cn g b)) f y6 y8 y9) a := by
  have ok2 := ok.2.1
  intro f
  induction f with
  | zero => intro n y6 y8 y9 _ _ _ _ h; omega
  | succ f ih =>
    intro n y6 y8 y9 h6 h8 h9 h3 hf
    have ai := am_in (fun i => - apt g b i) n
    rw [m_X13_ks_b61]
    by_cases c : cn g b ≤ y9
    · have e : (cn g b - 1).toNat = n := by omega
      have ci := cs_in (g := g) (b := b) (i := am (fun i => - apt g b i) n) ai.1 (by omega)
      rw [e] at ha
      by_cases d : w = 2
      · repeat (first | (with_reducible refine Rt.gd ?_ ?_; focus (first | omega | assumption | ((repeat' refine And.intro ?_ ?_) <;> first | omega | assumption) | fail)) | (with_reducible refine Rt.ip ?_ ?_; focus (first | omega | assumption | ((repeat' refine And.intro ?_ ?_) <;> first | omega | assumption) | fail)) | (with_reducible refine Rt.in_ ?_ ?_; focus (first | omega | assumption | ((repeat' refine And.intro ?_ ?_) <;> first | omega | assumption) | fail)) | (rw [so_bd]; try dsimp only))
        rw [h8, ← ha.1 d]
        exact Rt.so
      · have ht := ha.2 d
        rw [← h6] at ht
        repeat (first | (with_reducible refine Rt.gd ?_ ?_; focus (first | omega | assumption | ((repeat' refine And.intro ?_ ?_) <;> first | omega | assumption) | fail)) | (with_reducible refine Rt.ip ?_ ?_; focus (first | omega | assumption | ((repeat' refine And.intro ?_ ?_) <;> first | omega | assumption) | fail)) | (with_reducible refine Rt.in_ ?_ ?_; focus (first | omega | assumption | ((repeat' refine And.intro ?_ ?_) <;> first | omega | assumption) | fail)) | (rw [ht, so_bd]; try dsimp only) | (rw [so_bd]; try dsimp only))
        all_goals exact Rt.so
    · have q1 := apt_in ok (i := am (fun i => - apt g b i) n) ai.1 (by omega)
      have q2 := apt_in ok (i := y9) (by omega) (by omega)
      have qd := apt_d ok (i := y9) (by omega) (by omega)
      have es : am (fun i => - apt g b i) (n + 1) = if - apt g b y9 < - apt g b (am (fun i => - apt g b i) n) then y9 else am (fun i => - apt g b i) n := by rw [h9]; rfl
      have ed : iabs (cG g b (y9 + 1) * cB g b (cn g b) - cB g b (y9 + 1) * cG g b (cn g b)) = apt g b y9 := rfl
      have e1 := (hr y9 (by omega) (by omega)).1
      by_cases d : apt g b y9 ≤ y6
      · repeat (first | (with_reducible refine Rt.gd ?_ ?_; focus (first | omega | assumption | ((repeat' refine And.intro ?_ ?_) <;> first | omega | assumption) | fail)) | (with_reducible refine Rt.ip ?_ ?_; focus (first | omega | assumption | ((repeat' refine And.intro ?_ ?_) <;> first | omega | assumption) | fail)) | (with_reducible refine Rt.in_ ?_ ?_; focus (first | omega | assumption | ((repeat' refine And.intro ?_ ?_) <;> first | omega | assumption) | fail)) | (rw [of00 hN ok hr (x2 := y9 + 1) (by omega) (by omega), so_bd]; try dsimp only) | (rw [of01 hN ok hr (x2 := y9 + 1) (by omega) (by omega), so_bd]; try dsimp only) | (rw [so_bd]; try dsimp only))
        have es : am (fun i => - apt g b i) (n + 1) = am (fun i => - apt g b i) n := by rw [es, if_neg (by omega)]
        exact ih (n + 1) y6 y8 (y9 + 1) (by rw [es, h6]) (by rw [es, h8]) (by omega) (by omega) (by omega)
      · repeat (first | (with_reducible refine Rt.gd ?_ ?_; focus (first | omega | assumption | ((repeat' refine And.intro ?_ ?_) <;> first | omega | assumption) | fail)) | (with_reducible refine Rt.ip ?_ ?_; focus (first | omega | assumption | ((repeat' refine And.intro ?_ ?_) <;> first | omega | assumption) | fail)) | (with_reducible refine Rt.in_ ?_ ?_; focus (first | omega | assumption | ((repeat' refine And.intro ?_ ?_) <;> first | omega | assumption) | fail)) | (rw [of00 hN ok hr (x2 := y9 + 1) (by omega) (by omega), so_bd]; try dsimp only) | (rw [of01 hN ok hr (x2 := y9 + 1) (by omega) (by omega), so_bd]; try dsimp only) | (rw [so_bd]; try dsimp only))
        have es : am (fun i => - apt g b i) (n + 1) = y9 := by rw [es, if_pos (by omega)]
        exact ih (n + 1) _ _ (y9 + 1) (by rw [es, ed]) (by rw [es, e1]) (by omega) (by omega) (by omega)
theorem goodBelow_b4_ok {st lgo : Int → Int} {G : Int → Int} {m x : Int} (hm : 0 ≤ m ∧ m ≤ 60) (hL : ∀ k, 0 ≤ k → k < m → lgo k = bG G st k) (hx : 0 ≤ x ∧ x ≤ m) : ∀ (f : Nat) (y2 y3 : Int), 0 ≤ y3 → y3 ≤ x → y2 = G (st y3) - G (st 0) → (x - y3).toNat < f → m_X4_goodBelow_b4 N m lgo x f y2 y3 = some (G (st x) - G (st 0)) := by
  intro f
  induction f with
  | zero => intro y2 y3 _ _ _ h; omega
  | succ f ih =>
    intro y2 y3 h0 h1 hy hf
    rw [m_X4_goodBelow_b4]
    by_cases c : x ≤ y3
    · repeat (first | (with_reducible refine gd_ok ?_ ?_; focus (first | omega | assumption | ((repeat' refine And.intro ?_ ?_) <;> first | omega | assumption) | fail)) | (with_reducible refine ip_ok ?_ ?_; focus (first | omega | assumption | ((repeat' refine And.intro ?_ ?_) <;> first | omega | assumption) | fail)) | (with_reducible refine in_ok ?_ ?_; focus (first | omega | assumption | ((repeat' refine And.intro ?_ ?_) <;> first | omega | assumption) | fail)) | (rw [so_bd]; try dsimp only))
      rw [hy, show y3 = x by omega]
    · repeat (first | (with_reducible refine gd_ok ?_ ?_; focus (first | omega | assumption | ((repeat' refine And.intro ?_ ?_) <;> first | omega | assumption) | fail)) | (with_reducible refine ip_ok ?_ ?_; focus (first | omega | assumption | ((repeat' refine And.intro ?_ ?_) <;> first | omega | assumption) | fail)) | (with_reducible refine in_ok ?_ ?_; focus (first | omega | assumption | ((repeat' refine And.intro ?_ ?_) <;> first | omega | assumption) | fail)) | (rw [so_bd]; try dsimp only))
      refine ih _ (y3 + 1) (by omega) (by omega) ?_ (by omega)
      rw [hL y3 h0 (by omega), hy]
      unfold bG
      omega
theorem badBelow_b4_ok {st lgo : Int → Int} {G : Int → Int} {m x : Int} (hm : 0 ≤ m ∧ m ≤ 60) (hL : ∀ k, 0 ≤ k → k < m → lgo k = bG G st k) (hx : 0 ≤ x ∧ x ≤ m) : ∀ (f : Nat) (y2 y3 : Int), 0 ≤ y3 → y3 ≤ x → y2 = G (st y3) - G (st 0) → (x - y3).toNat < f → m_X4_badBelow_b4 N m lgo x f y2 y3 = some (G (st x) - G (st 0)) := by
  intro f
  induction f with
  | zero => intro y2 y3 _ _ _ h; omega
  | succ f ih =>
    intro y2 y3 h0 h1 hy hf
    rw [m_X4_badBelow_b4]
    by_cases c : x ≤ y3
    · repeat (first | (with_reducible refine gd_ok ?_ ?_; focus (first | omega | assumption | ((repeat' refine And.intro ?_ ?_) <;> first | omega | assumption) | fail)) | (with_reducible refine ip_ok ?_ ?_; focus (first | omega | assumption | ((repeat' refine And.intro ?_ ?_) <;> first | omega | assumption) | fail)) | (with_reducible refine in_ok ?_ ?_; focus (first | omega | assumption | ((repeat' refine And.intro ?_ ?_) <;> first | omega | assumption) | fail)) | (rw [so_bd]; try dsimp only))
      rw [hy, show y3 = x by omega]
    · repeat (first | (with_reducible refine gd_ok ?_ ?_; focus (first | omega | assumption | ((repeat' refine And.intro ?_ ?_) <;> first | omega | assumption) | fail)) | (with_reducible refine ip_ok ?_ ?_; focus (first | omega | assumption | ((repeat' refine And.intro ?_ ?_) <;> first | omega | assumption) | fail)) | (with_reducible refine in_ok ?_ ?_; focus (first | omega | assumption | ((repeat' refine And.intro ?_ ?_) <;> first | omega | assumption) | fail)) | (rw [so_bd]; try dsimp only))
      refine ih _ (y3 + 1) (by omega) (by omega) ?_ (by omega)
      rw [hL y3 h0 (by omega), hy]
      unfold bG
      omega
end
