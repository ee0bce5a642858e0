/-! drawn rows: the same answer -/
section
variable {N : Nat} {g b : Int → Int}
theorem DwI.up (ok : okP g b) {vg vb : Int → Int} {t : Int} (h : DwI g b vg vb t) {r : Int} (r0 : 0 ≤ r) (r1 : r < cn g b) : DwI g b (uP vg r (vg r + 1)) vb (t + 1) ∧ DwI g b vg (uP vb r (vb r + 1)) (t + 1) := by
  have sm : ∀ v : Int → Int, sI (uP v r (v r + 1)) (cn g b) = sI v (cn g b) + 1 := by
    intro v
    have key : ∀ k : Nat, sI (uP v r (v r + 1)) (r + 1 + k) = sI v (r + 1 + k) + 1 := by
      intro k
      induction k with
      | zero =>
        have ee : sI (uP v r (v r + 1)) r = sI v r := sI_congr (fun j j0 j1 => uP_o v _ (show ¬ j = r by omega))
        rw [show r + 1 + ((0 : Nat) : Int) = r + 1 by omega, sI_s _ r0, sI_s _ r0, uP_s, ee]
        omega
      | succ k ih =>
        rw [show r + 1 + ((k + 1 : Nat) : Int) = r + 1 + k + 1 by omega, sI_s _ (by omega), sI_s v (by omega), ih, uP_o v _ (by omega)]
        omega
    have := key (cn g b - r - 1).toNat
    rwa [show r + 1 + ((cn g b - r - 1).toNat : Int) = cn g b by omega] at this
  obtain ⟨h1, h2, h3⟩ := h
  refine ⟨⟨fun i => ?_, fun i hi => ?_, ?_⟩, ⟨fun i => ?_, fun i hi => ?_, ?_⟩⟩
  · by_cases e : i = r
    · rw [e, uP_s]; have := h1 r; omega
    · rw [uP_o _ _ e]; exact h1 i
  · rw [uP_o _ _ (by omega)]; exact h2 i hi
  · rw [sm vg]; omega
  · by_cases e : i = r
    · rw [e, uP_s]; have := h1 r; omega
    · rw [uP_o _ _ e]; exact h1 i
  · rw [uP_o _ _ (by omega)]; exact h2 i hi
  · rw [sm vb]; omega
theorem rs_b90_ok (ok : okP g b) {stt sc go ba st : Int → Int} {sd w zb y4 y7 y9 x r : Int} (hr : RwA g b sc go ba) (hk : 0 ≤ r ∧ r < cn g b) (h1 : cG g b r + cB g b r ≤ x) (h2 : x < cG g b (r + 1) + cB g b (r + 1)) (k56 : Int → Int → (Int → Int) → (Int → Int) → Option (Int × Int × Int × (Int → Int) × (Int → Int) × (Int → Int) × (Int → Int))) {vg vb : Int → Int} : ∀ (f : Nat) (y10 y11 : Int), 0 ≤ y11 → y11 ≤ r → y10 = x - (cG g b y11 + cB g b y11) → (r - y11).toNat < f → m_X13_resample_b90 N stt sd w (cn g b) zb sc go ba st y4 y7 y9 k56 f y10 y11 vg vb = if cg g b r ≤ x - (cG g b r + cB g b r) then k56 y7 (y9 + 1) vg (uP vb r (vb r + 1)) else k56 y7 (y9 + 1) (uP vg r (vg r + 1)) vb := by
  have ok2 := ok.2.1
  intro f
  induction f with
  | zero => intro y10 y11 _ _ _ h; omega
  | succ f ih =>
    intro y10 y11 h0 hy e hf
    obtain ⟨-, a1, a2⟩ := hr y11 h0 (by omega)
    have ci := cg_in ok h0 (show y11 < cn g b by omega)
    have s1 := cG_s (g := g) (b := b) h0
    have s2 := cB_s (g := g) (b := b) h0
    have cb0 := C_b ok h0 (show y11 ≤ cn g b by omega)
    have cb1 := C_b ok (i := r + 1) (by omega) (by omega)
    have m0 := C_m ok h0 hy (show r ≤ cn g b by omega)
    rw [m_X13_resample_b90, a1, a2]
    by_cases c : y11 = r
    · subst c
      by_cases d : cg g b y11 ≤ x - (cG g b y11 + cB g b y11)
      · rw [if_pos d]
        repeat (first | (with_reducible refine gd_ok ?_ ?_; focus (first | omega | assumption | ((repeat' refine And.intro ?_ ?_) <;> first | omega | assumption) | fail)) | (with_reducible refine ip_ok ?_ ?_; focus (first | omega | assumption | ((repeat' refine And.intro ?_ ?_) <;> first | omega | assumption) | fail)) | (with_reducible refine in_ok ?_ ?_; focus (first | omega | assumption | ((repeat' refine And.intro ?_ ?_) <;> first | omega | assumption) | fail)) | (rw [so_bd]; try dsimp only))
        all_goals rfl
      · rw [if_neg d]
        repeat (first | (with_reducible refine gd_ok ?_ ?_; focus (first | omega | assumption | ((repeat' refine And.intro ?_ ?_) <;> first | omega | assumption) | fail)) | (with_reducible refine ip_ok ?_ ?_; focus (first | omega | assumption | ((repeat' refine And.intro ?_ ?_) <;> first | omega | assumption) | fail)) | (with_reducible refine in_ok ?_ ?_; focus (first | omega | assumption | ((repeat' refine And.intro ?_ ?_) <;> first | omega | assumption) | fail)) | (rw [so_bd]; try dsimp only))
        all_goals rfl
    · have m1 := C_m ok (i := y11 + 1) (j := r) (by omega) (by omega) (by omega)
      repeat (first | (with_reducible refine gd_ok ?_ ?_; focus (first | omega | assumption | ((repeat' refine And.intro ?_ ?_) <;> first | omega | assumption) | fail)) | (with_reducible refine ip_ok ?_ ?_; focus (first | omega | assumption | ((repeat' refine And.intro ?_ ?_) <;> first | omega | assumption) | fail)) | (with_reducible refine in_ok ?_ ?_; focus (first | omega | assumption | ((repeat' refine And.intro ?_ ?_) <;> first | omega | assumption) | fail)) | (rw [so_bd]; try dsimp only))
      exact ih _ (y11 + 1) (by omega) (by omega) (by rw [s1, s2]; omega) (by omega)
theorem draw_lp (hN : 40000 ≤ N) (ok : okP g b) {stt sc go ba st sc2 go2 ba2 gA bA dsc dgA dbA : Int → Int} {w zb dz x0 : Int} (hr : RwA g b sc go ba) (hr2 : RwA g b sc2 go2 ba2) (hA : AhA g b gA bA) (hp : 0 < cG g b (cn g b) + cB g b (cn g b)) : ∀ (f : Nat) (y5 y7 : Int) (tg tb vg vb : Int → Int), 0 ≤ y7 → y7 ≤ cG g b (cn g b) + cB g b (cn g b) → DwI g b vg vb y7 → (∀ i, 0 ≤ i → i < 60 → tg i = vg i ∧ tb i = vb i) → (cG g b (cn g b) + cB g b (cn g b) - y7).toNat < f → ∃ y5' tg' tb' vg' vb', DwI g b vg' vb' (cG g b (cn g b) + cB g b (cn g b)) ∧ (∀ i, 0 ≤ i → i < 60 → tg' i = vg' i ∧ tb' i = vb' i) ∧ m_X8_drawFrom_b28 N (cn g b) sc2 go2 gA bA x0 dz dsc dgA dbA (cG g b (cn g b) + cB g b (cn g b)) f tg tb y5 y7 = m_X8_drawFrom_b28 N (cn g b) sc2 go2 gA bA x0 dz dsc dgA dbA (cG g b (cn g b) + cB g b (cn g b)) 1 tg' tb' y5' (cG g b (cn g b) + cB g b (cn g b)) ∧ m_X13_resample_b56 N stt x0 w (cn g b) zb sc go ba st (cG g b (cn g b) + cB g b (cn g b)) f y5 y7 vg vb = m_X13_resample_b56 N stt x0 w (cn g b) zb sc go ba st (cG g b (cn g b) + cB g b (cn g b)) 1 y5' (cG g b (cn g b) + cB g b (cn g b)) vg' vb' := by
  have ok2 := ok.2.1
  have nb := C_b ok (cn_0 g b) (Int.le_refl _)
  intro f
  induction f with
  | zero => intro y5 y7 tg tb vg vb _ _ _ _ h; omega
  | succ f ih =>
    intro y5 y7 tg tb vg vb h0 h1 hD hT hf
    by_cases c : y7 = cG g b (cn g b) + cB g b (cn g b)
    · rw [c] at hD
      refine ⟨y5, tg, tb, vg, vb, hD, hT, ?_, ?_⟩
      · rw [c, m_X8_drawFrom_b28, m_X8_drawFrom_b28]
        rw [gd_t (by constructor <;> omega), gd_t (by constructor <;> omega), if_pos (by omega), gd_t (by constructor <;> omega), gd_t (by constructor <;> omega), if_pos (by omega)]
      · rw [c, m_X13_resample_b56, m_X13_resample_b56]
        rw [gd_t (by constructor <;> omega), gd_t (by constructor <;> omega), if_pos (by omega), gd_t (by constructor <;> omega), gd_t (by constructor <;> omega), if_pos (by omega)]
    · generalize hw : ((y5 * 6364136223846793005) + 1442695040888963407) % 18446744073709551616 / 8589934592 % (cG g b (cn g b) + cB g b (cn g b)) = x at *
      have hx : 0 ≤ x ∧ x < cG g b (cn g b) + cB g b (cn g b) := by
        rw [← hw]
        exact ⟨Int.emod_nonneg _ (by omega), Int.emod_lt_of_pos _ hp⟩
      obtain ⟨r, r1, r2, r3⟩ := holds ok hx.1 hx.2
      have ho := holder_ok (N := N) hN ok hA (x := x) ⟨hx.1, by omega⟩ r1 r2 r3
      have ca := casesAhead_ok (N := N) ok hA (i := r) r1.1 (by omega)
      have cr := C_b ok (i := r) r1.1 (by omega)
      have cgi := cg_in ok r1.1 r1.2
      obtain ⟨-, a1, -⟩ := hr2 r r1.1 r1.2
      have up := hD.up ok r1.1 r1.2
      have hTr := hT r r1.1 (by omega)
      have rb := rs_b90_ok (N := N) (stt := stt) (st := st) (sd := x0) (w := w) (zb := zb) (y4 := cG g b (cn g b) + cB g b (cn g b)) (y7 := (y5 * 6364136223846793005) + 1442695040888963407) (y9 := y7) ok hr r1 r2 r3 (m_X13_resample_b56 N stt x0 w (cn g b) zb sc go ba st (cG g b (cn g b) + cB g b (cn g b)) f) (vg := vg) (vb := vb) N x 0 (Int.le_refl 0) r1.1 (by
        have z1 : cG g b 0 = 0 := rfl
        have z2 : cB g b 0 = 0 := rfl
        omega) (by omega)
      have e1 : m_X8_drawFrom_b28 N (cn g b) sc2 go2 gA bA x0 dz dsc dgA dbA (cG g b (cn g b) + cB g b (cn g b)) (f + 1) tg tb y5 y7 = if cg g b r ≤ x - (cG g b r + cB g b r) then m_X8_drawFrom_b28 N (cn g b) sc2 go2 gA bA x0 dz dsc dgA dbA (cG g b (cn g b) + cB g b (cn g b)) f tg (uP tb r (tb r + 1)) ((y5 * 6364136223846793005) + 1442695040888963407) (y7 + 1) else m_X8_drawFrom_b28 N (cn g b) sc2 go2 gA bA x0 dz dsc dgA dbA (cG g b (cn g b) + cB g b (cn g b)) f (uP tg r (tg r + 1)) tb ((y5 * 6364136223846793005) + 1442695040888963407) (y7 + 1) := by
        rw [m_X8_drawFrom_b28, hw]
        by_cases d : cg g b r ≤ x - (cG g b r + cB g b r)
        · rw [if_pos d]
          repeat (first | (with_reducible refine gd_ok ?_ ?_; focus (first | omega | assumption | ((repeat' refine And.intro ?_ ?_) <;> first | omega | assumption) | fail)) | (with_reducible refine ip_ok ?_ ?_; focus (first | omega | assumption | ((repeat' refine And.intro ?_ ?_) <;> first | omega | assumption) | fail)) | (with_reducible refine in_ok ?_ ?_; focus (first | omega | assumption | ((repeat' refine And.intro ?_ ?_) <;> first | omega | assumption) | fail)) | (rw [ho, so_bd]; try dsimp only) | (rw [ca, so_bd]; try dsimp only) | rw [a1] | (rw [so_bd]; try dsimp only))
          all_goals rfl
        · rw [if_neg d]
          repeat (first | (with_reducible refine gd_ok ?_ ?_; focus (first | omega | assumption | ((repeat' refine And.intro ?_ ?_) <;> first | omega | assumption) | fail)) | (with_reducible refine ip_ok ?_ ?_; focus (first | omega | assumption | ((repeat' refine And.intro ?_ ?_) <;> first | omega | assumption) | fail)) | (with_reducible refine in_ok ?_ ?_; focus (first | omega | assumption | ((repeat' refine And.intro ?_ ?_) <;> first | omega | assumption) | fail)) | (rw [ho, so_bd]; try dsimp only) | (rw [ca, so_bd]; try dsimp only) | rw [a1] | (rw [so_bd]; try dsimp only))
          all_goals rfl
      have e2 : m_X13_resample_b56 N stt x0 w (cn g b) zb sc go ba st (cG g b (cn g b) + cB g b (cn g b)) (f + 1) y5 y7 vg vb = if cg g b r ≤ x - (cG g b r + cB g b r) then m_X13_resample_b56 N stt x0 w (cn g b) zb sc go ba st (cG g b (cn g b) + cB g b (cn g b)) f ((y5 * 6364136223846793005) + 1442695040888963407) (y7 + 1) vg (uP vb r (vb r + 1)) else m_X13_resample_b56 N stt x0 w (cn g b) zb sc go ba st (cG g b (cn g b) + cB g b (cn g b)) f ((y5 * 6364136223846793005) + 1442695040888963407) (y7 + 1) (uP vg r (vg r + 1)) vb := by
        rw [m_X13_resample_b56, hw]
        repeat (first | (with_reducible refine gd_ok ?_ ?_; focus (first | omega | assumption | ((repeat' refine And.intro ?_ ?_) <;> first | omega | assumption) | fail)) | (with_reducible refine ip_ok ?_ ?_; focus (first | omega | assumption | ((repeat' refine And.intro ?_ ?_) <;> first | omega | assumption) | fail)) | (with_reducible refine in_ok ?_ ?_; focus (first | omega | assumption | ((repeat' refine And.intro ?_ ?_) <;> first | omega | assumption) | fail)) | (rw [so_bd]; try dsimp only))
        exact rb
      rw [e1, e2]
      by_cases d : cg g b r ≤ x - (cG g b r + cB g b r)
      · rw [if_pos d, if_pos d]
        exact ih _ (y7 + 1) tg (uP tb r (tb r + 1)) vg (uP vb r (vb r + 1)) (by omega) (by omega) up.2 (fun i i0 i1 => by
          by_cases e : i = r
          · rw [e, uP_s, uP_s, hTr.2]; exact ⟨hTr.1, rfl⟩
          · rw [uP_o _ _ e, uP_o _ _ e]; exact hT i i0 i1) (by omega)
      · rw [if_neg d, if_neg d]
        exact ih _ (y7 + 1) (uP tg r (tg r + 1)) tb (uP vg r (vg r + 1)) vb (by omega) (by omega) up.1 (fun i i0 i1 => by
          by_cases e : i = r
          · rw [e, uP_s, uP_s, hTr.1]; exact ⟨rfl, hTr.2⟩
          · rw [uP_o _ _ e, uP_o _ _ e]; exact hT i i0 i1) (by omega)
theorem cutOfRows_ok (hN : 40000 ≤ N) (ok : okP g b) {stt sc go ba : Int → Int} {gc bc : Int} (hr : RwA g b sc go ba) (h3 : stt 3203 = gc) (h4 : stt 3204 = bc) (hgc : 0 ≤ gc ∧ gc ≤ 999) (hbc : 0 ≤ bc ∧ bc ≤ 999) : m_X13_cutOfRows N (cn g b) stt sc go ba = some (cutB g b (am (fun i => kst g b gc bc 0 i i) (cn g b).toNat)) := by
  have ok2 := ok.2.1
  have n0 := cn_0 g b
  have ek : ∀ i, kst g b gc bc 0 i i = gc * cG g b i + bc * (cB g b (cn g b) - cB g b i) := by
    intro i
    unfold kst
    rw [Int.zero_mul, Int.add_zero]
  have lp : ∀ (f n : Nat) (y1 y2 y4 : Int), y4 = (n : Int) → y4 ≤ cn g b → y1 = cutB g b (am (fun i => kst g b gc bc 0 i i) n) → y2 = kst g b gc bc 0 (am (fun i => kst g b gc bc 0 i i) n) (am (fun i => kst g b gc bc 0 i i) n) → (cn g b - y4).toNat < f → m_X13_cutOfRows_b26 N (cn g b) stt sc go ba f y1 y2 y4 = some (cutB g b (am (fun i => kst g b gc bc 0 i i) (cn g b).toNat)) := by
    intro f
    induction f with
    | zero => intro n y1 y2 y4 _ _ _ _ h; omega
    | succ f ih =>
      intro n y1 y2 y4 e4 h4' e1 e2 hf
      have ai := am_in (fun i => kst g b gc bc 0 i i) n
      rw [m_X13_cutOfRows_b26, h3, h4]
      by_cases c : cn g b ≤ y4
      · repeat (first | (with_reducible refine gd_ok ?_ ?_; focus (first | omega | assumption | ((repeat' refine And.intro ?_ ?_) <;> first | omega | assumption) | fail)) | (with_reducible refine ip_ok ?_ ?_; focus (first | omega | assumption | ((repeat' refine And.intro ?_ ?_) <;> first | omega | assumption) | fail)) | (with_reducible refine in_ok ?_ ?_; focus (first | omega | assumption | ((repeat' refine And.intro ?_ ?_) <;> first | omega | assumption) | fail)) | (rw [so_bd]; try dsimp only))
        rw [e1, show (cn g b).toNat = n by omega]
      · have k1 := kst_in ok hgc hbc (r := 0) ⟨by decide, by decide⟩ (i := y4 + 1) (j := y4 + 1) (by omega) (Int.le_refl _) (by omega)
        have k2 := kst_in ok hgc hbc (r := 0) ⟨by decide, by decide⟩ (i := am (fun i => kst g b gc bc 0 i i) n) (j := am (fun i => kst g b gc bc 0 i i) n) ai.1 (Int.le_refl _) (by omega)
        have es : am (fun i => kst g b gc bc 0 i i) (n + 1) = if kst g b gc bc 0 (y4 + 1) (y4 + 1) < y2 then y4 + 1 else am (fun i => kst g b gc bc 0 i i) n := by rw [e2, e4]; rfl
        have o1 := of00 hN ok hr (x2 := y4 + 1) (by omega) (by omega)
        have o2 := of1 hN ok hr (x1 := y4 + 1) (x2 := cn g b) ⟨by omega, by omega⟩ (Int.le_refl _)
        have ek1 := ek (y4 + 1)
        have sc1 := (hr y4 (by omega) (by omega)).1
        by_cases d : y2 ≤ kst g b gc bc 0 (y4 + 1) (y4 + 1)
        · have es : am (fun i => kst g b gc bc 0 i i) (n + 1) = am (fun i => kst g b gc bc 0 i i) n := by rw [es, if_neg (by omega)]
          repeat (first | (with_reducible refine gd_ok ?_ ?_; focus (first | omega | assumption | ((repeat' refine And.intro ?_ ?_) <;> first | omega | assumption) | fail)) | (with_reducible refine ip_ok ?_ ?_; focus (first | omega | assumption | ((repeat' refine And.intro ?_ ?_) <;> first | omega | assumption) | fail)) | (with_reducible refine in_ok ?_ ?_; focus (first | omega | assumption | ((repeat' refine And.intro ?_ ?_) <;> first | omega | assumption) | fail)) | (rw [o1, so_bd]; try dsimp only) | (rw [o2, so_bd]; try dsimp only) | (rw [so_bd]; try dsimp only))
          exact ih (n + 1) y1 y2 (y4 + 1) (by omega) (by omega) (by rw [es, e1]) (by rw [es, e2]) (by omega)
        · have es : am (fun i => kst g b gc bc 0 i i) (n + 1) = y4 + 1 := by rw [es, if_pos (by omega)]
          repeat (first | (with_reducible refine gd_ok ?_ ?_; focus (first | omega | assumption | ((repeat' refine And.intro ?_ ?_) <;> first | omega | assumption) | fail)) | (with_reducible refine ip_ok ?_ ?_; focus (first | omega | assumption | ((repeat' refine And.intro ?_ ?_) <;> first | omega | assumption) | fail)) | (with_reducible refine in_ok ?_ ?_; focus (first | omega | assumption | ((repeat' refine And.intro ?_ ?_) <;> first | omega | assumption) | fail)) | (rw [o1, so_bd]; try dsimp only) | (rw [o2, so_bd]; try dsimp only) | (rw [so_bd]; try dsimp only))
          refine ih (n + 1) _ _ (y4 + 1) (by omega) (by omega) ?_ (by rw [es, ek1]) (by omega)
          rw [es, sc1]
          unfold cutB
          rw [if_neg (by omega), show y4 + 1 - 1 = y4 by omega]
  have e0 : kst g b gc bc 0 0 0 = bc * cB g b (cn g b) := by
    rw [ek 0]
    have z1 : cG g b 0 = 0 := rfl
    have z2 : cB g b 0 = 0 := rfl
    rw [z1, z2, Int.mul_zero, Int.zero_add, Int.sub_zero]
  rw [m_X13_cutOfRows, h4]
  repeat (first | (with_reducible refine gd_ok ?_ ?_; focus (first | omega | assumption | ((repeat' refine And.intro ?_ ?_) <;> first | omega | assumption) | fail)) | (with_reducible refine ip_ok ?_ ?_; focus (first | omega | assumption | ((repeat' refine And.intro ?_ ?_) <;> first | omega | assumption) | fail)) | (with_reducible refine in_ok ?_ ?_; focus (first | omega | assumption | ((repeat' refine And.intro ?_ ?_) <;> first | omega | assumption) | fail)) | (rw [of01 hN ok hr n0 (Int.le_refl _), so_bd]; try dsimp only) | (rw [so_bd]; try dsimp only))
  exact lp N 0 0 _ 0 rfl n0 rfl e0.symm (by omega)
end
