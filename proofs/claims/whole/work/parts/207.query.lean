/-! what is asked, on both sides -/
def Rt {α β : Type} (x : Option (α × β)) (a : α) : Prop := ∃ r, x = some (a, r)
theorem Rt.gd {α β : Type} {c : Prop} [Decidable c] {x : Option (α × β)} {a : α} (hc : c) (h : Rt x a) : Rt (gd c x) a := by rw [gd_t hc]; exact h
theorem Rt.ip {α β : Type} {c : Prop} [Decidable c] {x y : Option (α × β)} {a : α} (hc : c) (h : Rt x a) : Rt (if c then x else y) a := by rw [if_pos hc]; exact h
theorem Rt.in_ {α β : Type} {c : Prop} [Decidable c] {x y : Option (α × β)} {a : α} (hc : ¬ c) (h : Rt y a) : Rt (if c then x else y) a := by rw [if_neg hc]; exact h
theorem Rt.bd {α β γ : Type} {x : Option γ} {f : γ → Option (α × β)} {v : γ} {a : α} (hx : x = some v) (h : Rt (f v) a) : Rt (x.bind f) a := by rw [hx]; exact h
theorem Rt.so {α β : Type} {a : α} {r : β} : Rt (some (a, r)) a := ⟨r, rfl⟩
section
variable {N : Nat}
theorem in1 {v lo hi : Int} (hv : rL v) (hl : rL lo) (hh : rL hi) (h : lo ≤ v ∧ v ≤ hi) : m_X13_in N v lo hi = some 1 := by
  rw [m_X13_in]
  refine gd_ok (by first | omega | (constructor <;> omega) | assumption) ?_
  refine gd_ok (by first | omega | (constructor <;> omega) | assumption) ?_
  refine in_ok (by first | omega | (constructor <;> omega) | assumption) ?_
  refine gd_ok (by first | omega | (constructor <;> omega) | assumption) ?_
  refine in_ok (by first | omega | (constructor <;> omega) | assumption) ?_
  rfl
theorem in0 {v lo hi : Int} (hv : rL v) (hl : rL lo) (hh : rL hi) (h : ¬ (lo ≤ v ∧ v ≤ hi)) : m_X13_in N v lo hi = some 0 := by
  rw [m_X13_in]
  by_cases c : v < lo
  · refine gd_ok (by first | omega | (constructor <;> omega) | assumption) ?_
    refine gd_ok (by first | omega | (constructor <;> omega) | assumption) ?_
    refine ip_ok (c) ?_
    rfl
  · refine gd_ok (by first | omega | (constructor <;> omega) | assumption) ?_
    refine gd_ok (by first | omega | (constructor <;> omega) | assumption) ?_
    refine in_ok (c) ?_
    refine gd_ok (by first | omega | (constructor <;> omega) | assumption) ?_
    refine ip_ok (by first | omega | (constructor <;> omega) | assumption) ?_
    rfl
theorem rI_L {v : Int} (h : rI v) : rL v := by have := h.1; have := h.2; constructor <;> omega
theorem has1 {m k : Int} (hk : rI k) (hm : rI m) (h : 0 ≤ k ∧ k < m) : m_X4_has N m k = some 1 := by
  rw [m_X4_has]
  refine gd_ok (by first | omega | (constructor <;> omega) | assumption) ?_
  refine in_ok (by first | omega | (constructor <;> omega) | assumption) ?_
  refine gd_ok (by first | omega | (constructor <;> omega) | assumption) ?_
  refine in_ok (by first | omega | (constructor <;> omega) | assumption) ?_
  rfl
theorem has0 {m k : Int} (hk : rI k) (hm : rI m) (h : ¬ (0 ≤ k ∧ k < m)) : m_X4_has N m k = some 0 := by
  rw [m_X4_has]
  by_cases c : k < 0
  · refine gd_ok (by first | omega | (constructor <;> omega) | assumption) ?_
    refine ip_ok (c) ?_
    rfl
  · refine gd_ok (by first | omega | (constructor <;> omega) | assumption) ?_
    refine in_ok (c) ?_
    refine gd_ok (by first | omega | (constructor <;> omega) | assumption) ?_
    refine ip_ok (by first | omega | (constructor <;> omega) | assumption) ?_
    rfl
end
/-- the band of a score -/
def plc (le : Int → Int) (s : Int) : Nat → Int
  | 0 => 0
  | n + 1 => if le ((n : Int) + 1) ≤ s then (n : Int) + 1 else plc le s n
theorem plc_in (le : Int → Int) (s : Int) (n : Nat) : 0 ≤ plc le s n ∧ plc le s n ≤ n := by
  induction n with
  | zero => exact ⟨Int.le_refl _, Int.le_refl _⟩
  | succ n ih =>
    rw [plc]
    by_cases c : le ((n : Int) + 1) ≤ s
    · rw [if_pos c]; omega
    · rw [if_neg c]; omega
def bAt (s0 st : Int → Int) (m s : Int) : Int := if m = 0 then -1 else plc (fun k => s0 (st k)) s (m - 1).toNat
theorem bAt_in (s0 st : Int → Int) {m : Int} (s : Int) (hm : 0 ≤ m) : -1 ≤ bAt s0 st m s ∧ bAt s0 st m s < m ∨ m = 0 := by
  unfold bAt
  by_cases c : m = 0
  · exact Or.inr c
  · have := plc_in (fun k => s0 (st k)) s (m - 1).toNat
    rw [if_neg c]
    left; omega
theorem bAt_in' (s0 st : Int → Int) {m : Int} (s : Int) (hm : 0 < m) : 0 ≤ bAt s0 st m s ∧ bAt s0 st m s < m := by
  unfold bAt
  have := plc_in (fun k => s0 (st k)) s (m - 1).toNat
  rw [if_neg (by omega)]
  omega
section
variable {N : Nat} {g b st le : Int → Int} {m : Int}
theorem place_b16_ok (hm : m ≤ 60) {s : Int} (hs : rI s) {L : Int → Int} (hL : ∀ k, 0 ≤ k → k < m → le k = L k ∧ rI (L k)) : ∀ (f n : Nat) (y : Int), y = (n : Int) → y < m → n < f → m_X4_place_b16 N m le s f y = some (plc L s n) := by
  intro f
  induction f with
  | zero => intro n y _ _ h; omega
  | succ f ih =>
    intro n y hy hm1 hf
    rw [m_X4_place_b16]
    cases n with
    | zero =>
      refine gd_ok (by first | omega | (constructor <;> omega) | assumption) ?_
      refine ip_ok (by first | omega | (constructor <;> omega) | assumption) ?_
      rw [hy]
      rfl
    | succ n =>
      obtain ⟨e1, e2⟩ := hL y (by omega) hm1
      have ey : y = (n : Int) + 1 := by omega
      rw [e1]
      by_cases c : L y ≤ s
      · refine gd_ok (by first | omega | (constructor <;> omega) | assumption) ?_
        refine in_ok (by first | omega | (constructor <;> omega) | assumption) ?_
        refine gd_ok (by first | omega | (constructor <;> omega) | assumption) ?_
        refine gd_ok (by first | omega | (constructor <;> omega) | assumption) ?_
        refine gd_ok (by first | omega | (constructor <;> omega) | assumption) ?_
        refine ip_ok (c) ?_
        rw [plc, ← ey, if_pos c]
      · refine gd_ok (by first | omega | (constructor <;> omega) | assumption) ?_
        refine in_ok (by first | omega | (constructor <;> omega) | assumption) ?_
        refine gd_ok (by first | omega | (constructor <;> omega) | assumption) ?_
        refine gd_ok (by first | omega | (constructor <;> omega) | assumption) ?_
        refine gd_ok (by first | omega | (constructor <;> omega) | assumption) ?_
        refine in_ok (c) ?_
        rw [ih n (y + -1) (by omega) (by omega) (by omega), plc, ← ey, if_neg c]
theorem place_ok (hN : 40000 ≤ N) (ok : okP g b) (hb : Bd (cn g b) st m) {gr go ba ri : Int → Int} (h : Lad (cs g b) (cG g b) (cB g b) st m le gr go ba ri) {s : Int} (hs : rI s) : m_X4_place N m le s = some (bAt (cs g b) st m s) := by
  have ok2 := ok.2.1
  have hm := hb.1
  rw [m_X4_place]
  by_cases c : m = 0
  · have e : bAt (cs g b) st m s = -1 := if_pos c
    rw [e]
    refine gd_ok (by first | omega | (constructor <;> omega) | assumption) ?_
    refine ip_ok (c) ?_
    rfl
  · have e : bAt (cs g b) st m s = plc (fun k => cs g b (st k)) s (m - 1).toNat := if_neg c
    rw [e]
    refine gd_ok (by first | omega | (constructor <;> omega) | assumption) ?_
    refine in_ok (c) ?_
    refine place_b16_ok (by omega) hs (fun k k0 k1 => ⟨(h k k0 k1).1, ?_⟩) N (m - 1).toNat (m - 1) (by omega) (by omega) (by omega)
    have i1 := hb.in_ k0 (by omega)
    have lt := hb.2.2.2 k k0 k1
    have i2 := hb.in_ (k := k + 1) (by omega) (by omega)
    have := cs_in (g := g) (b := b) i1.1 (by omega)
    show rI (cs g b (st k))
    constructor <;> omega
theorem bandAt_b15_ok (ok : okP g b) {sc go ba st' : Int → Int} (hr : RwA g b sc go ba) (hb : Bd (cn g b) st m) (hs : SA st' st m) {x : Int} (hx : rI x) : ∀ (f n : Nat) (y2 y3 : Int), y3 = (n : Int) + 1 → y3 ≤ m → y2 = plc (fun k => cs g b (st k)) x n → (m - y3).toNat < f → m_X13_bandAt_b15 N m sc st' x f y2 y3 = some (plc (fun k => cs g b (st k)) x (m - 1).toNat) := by
  have ok2 := ok.2.1
  have hm := hb.1
  intro f
  induction f with
  | zero => intro n y2 y3 _ _ _ h; omega
  | succ f ih =>
    intro n y2 y3 h1 h2 h3 hf
    rw [m_X13_bandAt_b15]
    by_cases c : m ≤ y3
    · have e : (m - 1).toNat = n := by omega
      refine gd_ok (by first | omega | (constructor <;> omega) | assumption) ?_
      refine gd_ok (by first | omega | (constructor <;> omega) | assumption) ?_
      refine ip_ok (c) ?_
      rw [e, h3]
    · have i1 := hb.in_ (k := y3) (by omega) (by omega)
      have lt := hb.2.2.2 y3 (by omega) (by omega)
      have i2 := hb.in_ (k := y3 + 1) (by omega) (by omega)
      have i3 := cs_in (g := g) (b := b) i1.1 (by omega)
      have e1 := hs y3 (by omega) (by omega)
      have e2 := (hr (st y3) i1.1 (by omega)).1
      rw [e1, e2]
      by_cases d : x < cs g b (st y3)
      · refine gd_ok (by first | omega | (constructor <;> omega) | assumption) ?_
        refine gd_ok (by first | omega | (constructor <;> omega) | assumption) ?_
        refine in_ok (c) ?_
        refine gd_ok (by first | omega | (constructor <;> omega) | assumption) ?_
        refine gd_ok (by first | omega | (constructor <;> omega) | assumption) ?_
        refine gd_ok (by first | omega | (constructor <;> omega) | assumption) ?_
        refine gd_ok (by first | omega | (constructor <;> omega) | assumption) ?_
        refine ip_ok (d) ?_
        rw [m_X13_bandAt_b43]
        refine ih (n + 1) y2 (y3 + 1) (by omega) (by omega) ?_ (by omega)
        rw [plc, ← h1, if_neg (by omega), h3]
      · refine gd_ok (by first | omega | (constructor <;> omega) | assumption) ?_
        refine gd_ok (by first | omega | (constructor <;> omega) | assumption) ?_
        refine in_ok (c) ?_
        refine gd_ok (by first | omega | (constructor <;> omega) | assumption) ?_
        refine gd_ok (by first | omega | (constructor <;> omega) | assumption) ?_
        refine gd_ok (by first | omega | (constructor <;> omega) | assumption) ?_
        refine gd_ok (by first | omega | (constructor <;> omega) | assumption) ?_
        refine in_ok (d) ?_
        rw [m_X13_bandAt_b43]
        refine ih (n + 1) y3 (y3 + 1) (by omega) (by omega) ?_ (by omega)
        rw [plc, ← h1, if_pos (by omega)]
theorem bandAt_ok (hN : 40000 ≤ N) (ok : okP g b) {sc go ba st' : Int → Int} (hr : RwA g b sc go ba) (hb : Bd (cn g b) st m) (hs : SA st' st m) {x : Int} (hx : rI x) : m_X13_bandAt N m sc st' x = some (bAt (cs g b) st m x) := by
  have ok2 := ok.2.1
  have hm := hb.1
  rw [m_X13_bandAt]
  by_cases c : m = 0
  · have e : bAt (cs g b) st m x = -1 := if_pos c
    obtain ⟨f, rfl⟩ : ∃ f, N = f + 1 := ⟨N - 1, by omega⟩
    rw [e]
    refine gd_ok (by first | omega | (constructor <;> omega) | assumption) ?_
    refine ip_ok (c) ?_
    rw [m_X13_bandAt_b12, m_X13_bandAt_b15]
    refine gd_ok (by first | omega | (constructor <;> omega) | assumption) ?_
    refine gd_ok (by first | omega | (constructor <;> omega) | assumption) ?_
    refine ip_ok (by first | omega | (constructor <;> omega) | assumption) ?_
    rfl
  · have e : bAt (cs g b) st m x = plc (fun k => cs g b (st k)) x (m - 1).toNat := if_neg c
    rw [e]
    refine gd_ok (by first | omega | (constructor <;> omega) | assumption) ?_
    refine in_ok (c) ?_
    rw [m_X13_bandAt_b12]
    exact bandAt_b15_ok ok hr hb hs hx N 0 0 1 rfl (by omega) rfl (by omega)
end
section
variable {N : Nat} {g b gA bA : Int → Int}
theorem goods_ok (ok : okP g b) (h : AhA g b gA bA) : m_X8_goods N (cn g b) gA = some (cG g b (cn g b)) := by
  have ok2 := ok.2.1
  have n0 := cn_0 g b
  rw [m_X8_goods, (h (cn g b) n0 (Int.le_refl _)).1]
  refine gd_ok (by first | omega | (constructor <;> omega) | assumption) ?_
  rfl
theorem bads_ok (ok : okP g b) (h : AhA g b gA bA) : m_X8_bads N (cn g b) bA = some (cB g b (cn g b)) := by
  have ok2 := ok.2.1
  have n0 := cn_0 g b
  rw [m_X8_bads, (h (cn g b) n0 (Int.le_refl _)).2]
  refine gd_ok (by first | omega | (constructor <;> omega) | assumption) ?_
  rfl
theorem casesAhead_ok (ok : okP g b) (h : AhA g b gA bA) {i : Int} (h0 : 0 ≤ i) (hi : i ≤ cn g b) : m_X8_casesAhead N gA bA i = some (cG g b i + cB g b i) := by
  have ok2 := ok.2.1
  rw [m_X8_casesAhead, (h i h0 hi).1, (h i h0 hi).2]
  refine gd_ok (by first | omega | (constructor <;> omega) | assumption) ?_
  rfl
theorem rcases_ok (ok : okP g b) (h : AhA g b gA bA) : m_X8_cases N (cn g b) gA bA = some (cG g b (cn g b) + cB g b (cn g b)) := by
  rw [m_X8_cases]
  refine bd_ok (casesAhead_ok ok h (cn_0 g b) (Int.le_refl _)) ?_
  rfl
theorem of0 {sc go ba : Int → Int} (hN : 40000 ≤ N) (ok : okP g b) (hr : RwA g b sc go ba) {x1 x2 : Int} (h1 : 0 ≤ x1 ∧ x1 ≤ x2) (h2 : x2 ≤ cn g b) : m_X13_of N go ba x1 x2 0 = some (cG g b x2 - cG g b x1) := of_ok hN ok hr h1 h2 ⟨by decide, by decide⟩
theorem of1 {sc go ba : Int → Int} (hN : 40000 ≤ N) (ok : okP g b) (hr : RwA g b sc go ba) {x1 x2 : Int} (h1 : 0 ≤ x1 ∧ x1 ≤ x2) (h2 : x2 ≤ cn g b) : m_X13_of N go ba x1 x2 1 = some (cB g b x2 - cB g b x1) := of_ok hN ok hr h1 h2 ⟨by decide, by decide⟩
theorem of2 {sc go ba : Int → Int} (hN : 40000 ≤ N) (ok : okP g b) (hr : RwA g b sc go ba) {x1 x2 : Int} (h1 : 0 ≤ x1 ∧ x1 ≤ x2) (h2 : x2 ≤ cn g b) : m_X13_of N go ba x1 x2 2 = some ((cG g b x2 + cB g b x2) - (cG g b x1 + cB g b x1)) := of_ok hN ok hr h1 h2 ⟨by decide, by decide⟩
theorem of00 {sc go ba : Int → Int} (hN : 40000 ≤ N) (ok : okP g b) (hr : RwA g b sc go ba) {x2 : Int} (h1 : 0 ≤ x2) (h2 : x2 ≤ cn g b) : m_X13_of N go ba 0 x2 0 = some (cG g b x2) := by
  rw [of0 hN ok hr ⟨Int.le_refl 0, h1⟩ h2]
  have e : cG g b 0 = 0 := rfl
  rw [e, Int.sub_zero]
theorem of01 {sc go ba : Int → Int} (hN : 40000 ≤ N) (ok : okP g b) (hr : RwA g b sc go ba) {x2 : Int} (h1 : 0 ≤ x2) (h2 : x2 ≤ cn g b) : m_X13_of N go ba 0 x2 1 = some (cB g b x2) := by
  rw [of1 hN ok hr ⟨Int.le_refl 0, h1⟩ h2]
  have e : cB g b 0 = 0 := rfl
  rw [e, Int.sub_zero]
theorem of02 {sc go ba : Int → Int} (hN : 40000 ≤ N) (ok : okP g b) (hr : RwA g b sc go ba) {x2 : Int} (h1 : 0 ≤ x2) (h2 : x2 ≤ cn g b) : m_X13_of N go ba 0 x2 2 = some (cG g b x2 + cB g b x2) := by
  rw [of2 hN ok hr ⟨Int.le_refl 0, h1⟩ h2]
  have e : cB g b 0 = 0 := rfl
  have e2 : cG g b 0 = 0 := rfl
  rw [e, e2]
  congr 1
  omega
end
