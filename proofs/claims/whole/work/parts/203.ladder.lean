/-! the class's ladder beside where bands begin -/
def Lad (s G B st : Int → Int) (m : Int) (le gr go ba ri : Int → Int) : Prop := ∀ k, 0 ≤ k → k < m → le k = s (st k) ∧ gr k = s (st (k + 1) - 1) ∧ go k = bG G st k ∧ ba k = bG B st k ∧ ri k = st (k + 1) - st k
section
variable {N : Nat} {g b s G B st le gr go ba ri : Int → Int} {m : Int}
theorem Lad.bd_ (ok : okP g b) (hb : Bd (cn g b) st m) (h : Lad s (cG g b) (cB g b) st m le gr go ba ri) {k : Int} (h0 : 0 ≤ k) (hk : k < m) : 0 ≤ go k ∧ 0 ≤ ba k ∧ go k + ba k ≤ 11880 ∧ 0 < go k + ba k := by
  have := hb.b ok h0 hk
  obtain ⟨-, -, e1, e2, -⟩ := h k h0 hk
  rw [e1, e2]
  exact this
theorem join_ok (hm : m ≤ 60) (h : Lad s G B st m le gr go ba ri) {k : Int} (k0 : 0 ≤ k) (hk : k + 1 < m) : ∃ le' gr' go' ba' ri', m_X4_join N m le gr go ba ri k = some (m - 1, le', gr', go', ba', ri') ∧ Lad s G B (dl st k) (m - 1) le' gr' go' ba' ri' := by
  refine ⟨(cP le le (k + 2) (k + 1) (m - 1 - k - 1)), (cP (uP gr k (gr (k + 1))) (uP gr k (gr (k + 1))) (k + 2) (k + 1) (m - 1 - k - 1)), (cP (uP go k (go k + go (k + 1))) (uP go k (go k + go (k + 1))) (k + 2) (k + 1) (m - 1 - k - 1)), (cP (uP ba k (ba k + ba (k + 1))) (uP ba k (ba k + ba (k + 1))) (k + 2) (k + 1) (m - 1 - k - 1)), (cP (uP ri k (ri k + ri (k + 1))) (uP ri k (ri k + ri (k + 1))) (k + 2) (k + 1) (m - 1 - k - 1)), ?_, ?_⟩
  · rw [m_X4_join]
    refine gd_ok (by first | omega | (constructor <;> omega) | assumption) ?_
    refine in_ok (by first | omega | (constructor <;> omega) | assumption) ?_
    refine gd_ok (by first | omega | (constructor <;> omega) | assumption) ?_
    refine gd_ok (by first | omega | (constructor <;> omega) | assumption) ?_
    refine ip_ok (hk) ?_
    refine gd_ok (by first | omega | (constructor <;> omega) | assumption) ?_
    refine gd_ok (by first | omega | (constructor <;> omega) | assumption) ?_
    refine gd_ok (by first | omega | (constructor <;> omega) | assumption) ?_
    refine gd_ok (by first | omega | (constructor <;> omega) | assumption) ?_
    refine gd_ok (by first | omega | (constructor <;> omega) | assumption) ?_
    rfl
  · intro j j0 j1
    by_cases c1 : j < k
    · obtain ⟨e1, e2, e3, e4, e5⟩ := h j j0 (by omega)
      rw [cP_o (by omega), cP_o (by omega), cP_o (by omega), cP_o (by omega), cP_o (by omega), uP_o _ _ (by omega), uP_o _ _ (by omega), uP_o _ _ (by omega), uP_o _ _ (by omega), bG_dl_l c1, bG_dl_l c1, dl_l (by omega), dl_l (by omega)]
      exact ⟨e1, e2, e3, e4, e5⟩
    · by_cases c2 : j = k
      · subst c2
        obtain ⟨e1, e2, e3, e4, e5⟩ := h j j0 (by omega)
        obtain ⟨f1, f2, f3, f4, f5⟩ := h (j + 1) (by omega) hk
        rw [cP_o (by omega), cP_o (by omega), cP_o (by omega), cP_o (by omega), cP_o (by omega), uP_s, uP_s, uP_s, uP_s, bG_dl_e, bG_dl_e, dl_l (Int.le_refl j), dl_r (by omega), e3, e4, e5, f2, f3, f4, f5]
        exact ⟨e1, rfl, rfl, rfl, by omega⟩
      · have e : k + 2 + (j - (k + 1)) = j + 1 := by omega
        obtain ⟨e1, e2, e3, e4, e5⟩ := h (j + 1) (by omega) (by omega)
        rw [cP_i (by omega), cP_i (by omega), cP_i (by omega), cP_i (by omega), cP_i (by omega), e, uP_o _ _ (by omega), uP_o _ _ (by omega), uP_o _ _ (by omega), uP_o _ _ (by omega), bG_dl_r (by omega), bG_dl_r (by omega), dl_r (by omega), dl_r (by omega)]
        exact ⟨e1, e2, e3, e4, e5⟩
theorem cases_ok {k : Int} (h0 : 0 ≤ k ∧ k < 60) : m_X4_cases N go ba k = some (go k + ba k) := by
  rw [m_X4_cases]
  refine gd_ok (by first | omega | (constructor <;> omega) | assumption) ?_
  rfl
theorem falls_ok (ok : okP g b) (hb : Bd (cn g b) st m) (h : Lad s (cG g b) (cB g b) st m le gr go ba ri) {k : Int} (h0 : 0 ≤ k) (hk : k + 1 < m) (hm : m ≤ 60) : (fl (cG g b) (cB g b) st k → m_X4_falls N go ba k = some 1) ∧ (¬ fl (cG g b) (cB g b) st k → m_X4_falls N go ba k = some 0) := by
  have b1 := hb.b ok h0 (by omega)
  have b2 := hb.b ok (k := k + 1) (by omega) hk
  have m1 := mul_bd (a := bG (cB g b) st (k + 1)) (b := bG (cG g b) st k + bG (cB g b) st k) (A := 11880) (B := 11880) (by omega) (by omega)
  have m2 := mul_bd (a := bG (cB g b) st k) (b := bG (cG g b) st (k + 1) + bG (cB g b) st (k + 1)) (A := 11880) (B := 11880) (by omega) (by omega)
  obtain ⟨-, -, e3, e4, -⟩ := h k h0 (by omega)
  obtain ⟨-, -, f3, f4, -⟩ := h (k + 1) (by omega) hk
  unfold fl
  constructor
  · intro hf
    rw [m_X4_falls]
    refine gd_ok (by first | omega | (constructor <;> omega) | assumption) ?_
    refine bd_ok (cases_ok (by omega)) ?_
    refine gd_ok (by first | omega | (constructor <;> omega) | assumption) ?_
    refine bd_ok (cases_ok (by omega)) ?_
    rw [e3, e4, f3, f4]
    refine gd_ok (by first | omega | (constructor <;> omega) | assumption) ?_
    refine gd_ok (by first | omega | (constructor <;> omega) | assumption) ?_
    refine in_ok ((by omega)) ?_
    rfl
  · intro hf
    rw [m_X4_falls]
    refine gd_ok (by first | omega | (constructor <;> omega) | assumption) ?_
    refine bd_ok (cases_ok (by omega)) ?_
    refine gd_ok (by first | omega | (constructor <;> omega) | assumption) ?_
    refine bd_ok (cases_ok (by omega)) ?_
    rw [e3, e4, f3, f4]
    refine gd_ok (by first | omega | (constructor <;> omega) | assumption) ?_
    refine gd_ok (by first | omega | (constructor <;> omega) | assumption) ?_
    refine ip_ok ((by omega)) ?_
    rfl
/-- how far the class has come: c bands of the first i rows, all of them falling -/
def PIn (s G B : Int → Int) (n : Int) (T : (Int → Int) × Int) (i c : Int) (st le gr go ba ri : Int → Int) (F : Nat) : Prop := Bd n st (c + (n - i)) ∧ (0 ≤ c ∧ c ≤ i ∧ i ≤ n) ∧ (∀ k, c ≤ k → k ≤ c + (n - i) → st k = i + (k - c)) ∧ Lad s G B st c le gr go ba ri ∧ pvN G B F st (c + (n - i)) = T ∧ (c + (n - i)).toNat ≤ F
theorem fp_b100 (ok : okP g b) (hs : s = cs g b) {ps : Int} {pS pG pB : Int → Int} {T : (Int → Int) × Int} {i : Int} (k7 : Int → (Int → Int) → (Int → Int) → (Int → Int) → (Int → Int) → (Int → Int) → Int → Option (Int × (Int → Int) × (Int → Int) × (Int → Int) × (Int → Int) × (Int → Int))) (y2 : Int) : ∀ (f F : Nat) (c : Int) (st le gr go ba ri : Int → Int), 1 ≤ c → c.toNat < f → PIn s (cG g b) (cB g b) (cn g b) T i c st le gr go ba ri F → (∀ j, 0 ≤ j → j + 2 < c → fl (cG g b) (cB g b) st j) → ∃ F' c' st' le' gr' go' ba' ri', m_X4_fillPure_b100 N ps pS pG pB y2 k7 f c le gr go ba ri c = k7 c' le' gr' go' ba' ri' (y2 + 1) ∧ PIn s (cG g b) (cB g b) (cn g b) T i c' st' le' gr' go' ba' ri' F' ∧ (∀ j, 0 ≤ j → j + 1 < c' → fl (cG g b) (cB g b) st' j) ∧ 1 ≤ c' := by
  have ok2 := ok.2.1
  intro f
  induction f with
  | zero => intro F c st le gr go ba ri _ h; omega
  | succ f ih =>
    intro F c st le gr go ba ri h1 hf hP hfl
    obtain ⟨hb, hc, hsi, hL, hT, hF⟩ := id hP
    have hm := hb.1
    rw [m_X4_fillPure_b100]
    by_cases c1 : c < 2
    · refine ⟨F, c, st, le, gr, go, ba, ri, ?_, hP, fun j j0 j1 => by omega, h1⟩
      refine gd_ok (by first | omega | (constructor <;> omega) | assumption) ?_
      refine ip_ok (c1) ?_
      rfl
    · have hbc : ∀ k, 0 ≤ k → k < c → 0 ≤ bG (cG g b) st k ∧ 0 ≤ bG (cB g b) st k ∧ bG (cG g b) st k + bG (cB g b) st k ≤ 11880 ∧ 0 < bG (cG g b) st k + bG (cB g b) st k := fun k k0 k1 => hb.b ok k0 (by omega)
      have hfa : (fl (cG g b) (cB g b) st (c - 2) → m_X4_falls N go ba (c - 2) = some 1) ∧ (¬ fl (cG g b) (cB g b) st (c - 2) → m_X4_falls N go ba (c - 2) = some 0) := by
        have e : c - 2 + 1 = c - 1 := by omega
        have b1 := hbc (c - 2) (by omega) (by omega)
        have b2 := hbc (c - 1) (by omega) (by omega)
        have m1 := mul_bd (a := bG (cB g b) st (c - 1)) (b := bG (cG g b) st (c - 2) + bG (cB g b) st (c - 2)) (A := 11880) (B := 11880) (by omega) (by omega)
        have m2 := mul_bd (a := bG (cB g b) st (c - 2)) (b := bG (cG g b) st (c - 1) + bG (cB g b) st (c - 1)) (A := 11880) (B := 11880) (by omega) (by omega)
        obtain ⟨-, -, e3, e4, -⟩ := hL (c - 2) (by omega) (by omega)
        obtain ⟨-, -, f3, f4, -⟩ := hL (c - 1) (by omega) (by omega)
        unfold fl
        rw [e]
        constructor
        · intro hf
          rw [m_X4_falls, e]
          refine gd_ok (by first | omega | (constructor <;> omega) | assumption) ?_
          refine bd_ok (cases_ok (by omega)) ?_
          refine gd_ok (by first | omega | (constructor <;> omega) | assumption) ?_
          refine bd_ok (cases_ok (by omega)) ?_
          rw [e3, e4, f3, f4]
          refine gd_ok (by first | omega | (constructor <;> omega) | assumption) ?_
          refine gd_ok (by first | omega | (constructor <;> omega) | assumption) ?_
          refine in_ok ((by omega)) ?_
          rfl
        · intro hf
          rw [m_X4_falls, e]
          refine gd_ok (by first | omega | (constructor <;> omega) | assumption) ?_
          refine bd_ok (cases_ok (by omega)) ?_
          refine gd_ok (by first | omega | (constructor <;> omega) | assumption) ?_
          refine bd_ok (cases_ok (by omega)) ?_
          rw [e3, e4, f3, f4]
          refine gd_ok (by first | omega | (constructor <;> omega) | assumption) ?_
          refine gd_ok (by first | omega | (constructor <;> omega) | assumption) ?_
          refine ip_ok ((by omega)) ?_
          rfl
      by_cases c2 : fl (cG g b) (cB g b) st (c - 2)
      · refine ⟨F, c, st, le, gr, go, ba, ri, ?_, hP, fun j j0 j1 => ?_, h1⟩
        · refine gd_ok (by first | omega | (constructor <;> omega) | assumption) ?_
          refine in_ok (c1) ?_
          refine bd_ok (hfa.1 c2) ?_
          refine gd_ok (by first | omega | (constructor <;> omega) | assumption) ?_
          refine in_ok ((by decide)) ?_
          rfl
        · by_cases e : j = c - 2
          · subst e; exact c2
          · exact hfl j j0 (by omega)
      · have hfv : fv (cG g b) (cB g b) st (c + (cn g b - i)) (c - 2) := ⟨by omega, c2, fun j j0 j1 => hfl j j0 (by omega)⟩
        obtain ⟨le', gr', go', ba', ri', e1, e2⟩ := join_ok (N := N) (m := c) (by omega) hL (k := c - 2) (by omega) (by omega)
        cases F with
        | zero => omega
        | succ F =>
          rw [pvN_fv F hfv (by omega)] at hT
          have em : c - 1 + (cn g b - i) = c + (cn g b - i) - 1 := by omega
          have hP' : PIn s (cG g b) (cB g b) (cn g b) T i (c - 1) (dl st (c - 2)) le' gr' go' ba' ri' F := by
            refine ⟨?_, by omega, fun k k0 k1 => ?_, e2, ?_, by omega⟩
            · rw [em]; exact hb.dl (by omega) (by omega)
            · rw [dl_r (by omega), hsi (k + 1) (by omega) (by omega)]; omega
            · rw [em]; exact hT
          obtain ⟨F', c', st2, le2, gr2, go2, ba2, ri2, q1, q2, q3, q4⟩ := ih F (c - 1) (dl st (c - 2)) le' gr' go' ba' ri' (by omega) (by omega) hP' (fun j j0 j1 => by
            have := hfl j j0 (by omega)
            unfold fl at this ⊢
            rw [bG_dl_l (by omega), bG_dl_l (by omega), bG_dl_l (by omega), bG_dl_l (by omega)]
            exact this)
          refine ⟨F', c', st2, le2, gr2, go2, ba2, ri2, ?_, q2, q3, q4⟩
          refine gd_ok (by first | omega | (constructor <;> omega) | assumption) ?_
          refine in_ok (c1) ?_
          refine bd_ok (hfa.2 c2) ?_
          refine gd_ok (by first | omega | (constructor <;> omega) | assumption) ?_
          refine ip_ok (rfl) ?_
          refine bd_ok (e1) ?_
          exact q1
end
section
variable {N : Nat} {g b sc go ba : Int → Int}
theorem fp_b7 (hN : 40000 ≤ N) (ok : okP g b) (hr : RwA g b sc go ba) {T : (Int → Int) × Int} : ∀ (f F : Nat) (i c : Int) (st le gr lgo lba ri : Int → Int), (cn g b - i).toNat < f → PIn (cs g b) (cG g b) (cB g b) (cn g b) T i c st le gr lgo lba ri F → (∀ j, 0 ≤ j → j + 1 < c → fl (cG g b) (cB g b) st j) → ∃ le' gr' go' ba' ri', m_X4_fillPure_b7 N (cn g b) sc go ba f c le gr lgo lba ri i = some (T.2, le', gr', go', ba', ri') ∧ Lad (cs g b) (cG g b) (cB g b) T.1 T.2 le' gr' go' ba' ri' := by
  have ok2 := ok.2.1
  intro f
  induction f with
  | zero => intro F i c st le gr lgo lba ri h; omega
  | succ f ih =>
    intro F i c st le gr lgo lba ri hf hP hfl
    obtain ⟨hb, hc, hsi, hL, hT, hF⟩ := id hP
    have hm := hb.1
    rw [m_X4_fillPure_b7]
    by_cases c1 : cn g b ≤ i
    · have e : c + (cn g b - i) = c := by omega
      rw [e] at hT
      rw [pvN_nv F hfl (by omega)] at hT
      subst hT
      refine ⟨le, gr, lgo, lba, ri, ?_, hL⟩
      refine gd_ok (by first | omega | (constructor <;> omega) | assumption) ?_
      refine gd_ok (by first | omega | (constructor <;> omega) | assumption) ?_
      refine ip_ok (c1) ?_
      rfl
    · obtain ⟨r1, r2, r3⟩ := hr i (by omega) (by omega)
      have s1 := hsi c (Int.le_refl c) (by omega)
      have s2 := hsi (c + 1) (by omega) (by omega)
      have e : c + 1 + (cn g b - (i + 1)) = c + (cn g b - i) := by omega
      have hP' : PIn (cs g b) (cG g b) (cB g b) (cn g b) T (i + 1) (c + 1) st (uP le c (sc i)) (uP gr c (sc i)) (uP lgo c (go i)) (uP lba c (ba i)) (uP ri c 1) F := by
        refine ⟨by rw [e]; exact hb, by omega, fun k k0 k1 => ?_, fun k k0 k1 => ?_, by rw [e]; exact hT, by rw [e]; exact hF⟩
        · rw [hsi k (by omega) (by omega)]; omega
        · by_cases ek : k = c
          · subst ek
            have es1 : st k = i := by omega
            have es2 : st (k + 1) = i + 1 := by omega
            unfold bG
            rw [uP_s, uP_s, uP_s, uP_s, uP_s, es1, es2, r1, r2, r3, cG_s (by omega), cB_s (by omega)]
            have ei : i + 1 - 1 = i := by omega
            rw [ei]
            exact ⟨rfl, rfl, by omega, by omega, by omega⟩
          · rw [uP_o _ _ ek, uP_o _ _ ek, uP_o _ _ ek, uP_o _ _ ek, uP_o _ _ ek]
            exact hL k k0 (by omega)
      obtain ⟨F', c', st2, le2, gr2, go2, ba2, ri2, q1, q2, q3, q4⟩ := fp_b100 (N := N) (ps := cn g b) (pS := sc) (pG := go) (pB := ba) ok rfl (m_X4_fillPure_b7 N (cn g b) sc go ba f) i N F (c + 1) st _ _ _ _ _ (by omega) (by omega) hP' (fun j j0 j1 => hfl j j0 (by omega))
      obtain ⟨le3, gr3, go3, ba3, ri3, w1, w2⟩ := ih F' (i + 1) c' st2 le2 gr2 go2 ba2 ri2 (by omega) q2 q3
      refine ⟨le3, gr3, go3, ba3, ri3, ?_, w2⟩
      refine gd_ok (by first | omega | (constructor <;> omega) | assumption) ?_
      refine gd_ok (by first | omega | (constructor <;> omega) | assumption) ?_
      refine in_ok (c1) ?_
      refine gd_ok (by first | omega | (constructor <;> omega) | assumption) ?_
      refine gd_ok (by first | omega | (constructor <;> omega) | assumption) ?_
      rw [q1]
      exact w1
theorem fillPure_ok (hN : 40000 ≤ N) (ok : okP g b) (hr : RwA g b sc go ba) {z : Int} {le gr lgo lba ri : Int → Int} : ∃ le' gr' go' ba' ri', m_X4_fillPure N (cn g b) sc go ba z le gr lgo lba ri = some (pmm g b, le', gr', go', ba', ri') ∧ Lad (cs g b) (cG g b) (cB g b) (pst g b) (pmm g b) le' gr' go' ba' ri' := by
  have ok2 := ok.2.1
  have n0 := cn_0 g b
  have e : 0 + (cn g b - 0) = cn g b := by omega
  refine fp_b7 hN ok hr (T := pvN (cG g b) (cB g b) 1000 (fun k => k) (cn g b)) N 1000 0 0 (fun k => k) le gr lgo lba ri (by omega) ⟨?_, by omega, fun k _ _ => by show k = 0 + (k - 0); omega, fun k k0 k1 => by omega, ?_, by omega⟩ (fun j j0 j1 => by omega)
  · rw [e]; exact Bd_id n0
  · rw [e]
end
