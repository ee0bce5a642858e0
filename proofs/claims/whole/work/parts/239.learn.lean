/-! acts: learning -/
def cntC (lb ds dr : Int → Int) (act w s n : Int) : Int := sI (fun i => if lb i = act ∧ ds i = s ∧ dr i = w then 1 else 0) n
theorem sI_01 {f : Int → Int} (hf : ∀ i, f i = 0 ∨ f i = 1) {n : Int} (h : 0 ≤ n) : 0 ≤ sI f n ∧ sI f n ≤ n := by
  refine up_ind (P := fun n => 0 ≤ sI f n ∧ sI f n ≤ n) ⟨Int.le_refl 0, Int.le_refl 0⟩ (fun i h ih => ?_) n h
  show 0 ≤ sI f (i + 1) ∧ sI f (i + 1) ≤ i + 1
  rw [sI_s _ h]
  have := hf i
  have ih : 0 ≤ sI f i ∧ sI f i ≤ i := ih
  omega
theorem cntC_in (lb ds dr : Int → Int) (act w s : Int) {n : Int} (h : 0 ≤ n) : 0 ≤ cntC lb ds dr act w s n ∧ cntC lb ds dr act w s n ≤ n := by
  refine sI_01 (fun i => ?_) h
  by_cases c : lb i = act ∧ ds i = s ∧ dr i = w
  · show (if lb i = act ∧ ds i = s ∧ dr i = w then (1 : Int) else 0) = 0 ∨ (if lb i = act ∧ ds i = s ∧ dr i = w then (1 : Int) else 0) = 1
    rw [if_pos c]; exact Or.inr rfl
  · show (if lb i = act ∧ ds i = s ∧ dr i = w then (1 : Int) else 0) = 0 ∨ (if lb i = act ∧ ds i = s ∧ dr i = w then (1 : Int) else 0) = 1
    rw [if_neg c]; exact Or.inl rfl
theorem mul_s (s c : Int) : s * (c + 1) = s * c + s := by rw [Int.mul_add, Int.mul_one]
theorem cntC_s {lb ds dr : Int → Int} {act w s n : Int} (h : 0 ≤ n) : cntC lb ds dr act w s (n + 1) = cntC lb ds dr act w s n + (if lb n = act ∧ ds n = s ∧ dr n = w then 1 else 0) := sI_s _ h
section
variable {N : Nat} {ds dr lb : Int → Int} {dz act sign : Int}
theorem dmove_b3_ok (hz : 0 ≤ dz ∧ dz ≤ 40) (hd : ∀ i, 0 ≤ i → i < dz → (0 ≤ ds i ∧ ds i < 1000) ∧ (-1 ≤ dr i ∧ dr i ≤ 1) ∧ rI (lb i)) (ha : rI act) {g0 b0 : Int → Int} : ∀ (f : Nat) (g b : Int → Int) (y : Int), 0 ≤ y → y ≤ dz → (∀ k, g k = g0 k + sign * cntC lb ds dr act 0 k y ∧ b k = b0 k + sign * cntC lb ds dr act 1 k y) → (dz - y).toNat < f → ∃ g' b', m_X2_move_b3 N dz ds dr lb act sign f g b y = some (g', b') ∧ ∀ k, g' k = g0 k + sign * cntC lb ds dr act 0 k dz ∧ b' k = b0 k + sign * cntC lb ds dr act 1 k dz := by
  intro f
  induction f with
  | zero => intro g b y _ _ _ h; omega
  | succ f ih =>
    intro g b y h0 h1 hk hf
    rw [m_X2_move_b3]
    by_cases c : dz ≤ y
    · refine ⟨g, b, ?_, fun k => by rw [show dz = y by omega]; exact hk k⟩
      repeat (first | (with_reducible refine gd_ok ?_ ?_; focus (first | omega | assumption | ((repeat' refine And.intro ?_ ?_) <;> first | omega | assumption) | fail)) | (with_reducible refine ip_ok ?_ ?_; focus (first | omega | assumption | ((repeat' refine And.intro ?_ ?_) <;> first | omega | assumption) | fail)) | (with_reducible refine in_ok ?_ ?_; focus (first | omega | assumption | ((repeat' refine And.intro ?_ ?_) <;> first | omega | assumption) | fail)) | (rw [so_bd]; try dsimp only))
      all_goals rfl
    · obtain ⟨d1, d2, d3⟩ := hd y h0 (by omega)
      by_cases e : lb y = act
      · by_cases r0 : dr y = 0
        · have r0ne : ¬ dr y = 1 := by omega
          have mv : m_X6_move N g b (ds y) sign 0 = some (uP g (ds y) (g (ds y) + sign), uP b (ds y) (b (ds y) + 0)) := by
            rw [m_X6_move]
            repeat (first | (with_reducible refine gd_ok ?_ ?_; focus (first | omega | assumption | ((repeat' refine And.intro ?_ ?_) <;> first | omega | assumption) | fail)) | (with_reducible refine ip_ok ?_ ?_; focus (first | omega | assumption | ((repeat' refine And.intro ?_ ?_) <;> first | omega | assumption) | fail)) | (with_reducible refine in_ok ?_ ?_; focus (first | omega | assumption | ((repeat' refine And.intro ?_ ?_) <;> first | omega | assumption) | fail)) | (rw [so_bd]; try dsimp only))
            all_goals rfl
          obtain ⟨g', b', q1, q2⟩ := ih (uP g (ds y) (g (ds y) + sign)) (uP b (ds y) (b (ds y) + 0)) (y + 1) (by omega) (by omega) (fun k => by
            have z0 := cntC_s (lb := lb) (ds := ds) (dr := dr) (act := act) (w := 0) (s := k) h0
            have z1 := cntC_s (lb := lb) (ds := ds) (dr := dr) (act := act) (w := 1) (s := k) h0
            have hk' := hk k
            by_cases q : k = ds y
            · subst q
              rw [if_pos ⟨e, rfl, r0⟩] at z0
              rw [if_neg (fun z => r0ne z.2.2), Int.add_zero] at z1
              rw [uP_s, uP_s, z0, z1, mul_s]
              omega
            · rw [if_neg (fun z => q z.2.1.symm), Int.add_zero] at z0
              rw [if_neg (fun z => q z.2.1.symm), Int.add_zero] at z1
              rw [uP_o _ _ q, uP_o _ _ q, z0, z1]
              exact hk') (by omega)
          refine ⟨g', b', ?_, q2⟩
          repeat (first | (with_reducible refine gd_ok ?_ ?_; focus (first | omega | assumption | ((repeat' refine And.intro ?_ ?_) <;> first | omega | assumption) | fail)) | (with_reducible refine ip_ok ?_ ?_; focus (first | omega | assumption | ((repeat' refine And.intro ?_ ?_) <;> first | omega | assumption) | fail)) | (with_reducible refine in_ok ?_ ?_; focus (first | omega | assumption | ((repeat' refine And.intro ?_ ?_) <;> first | omega | assumption) | fail)) | (rw [so_bd]; try dsimp only))
          rw [m_X2_move_b46]
          repeat (first | (with_reducible refine gd_ok ?_ ?_; focus (first | omega | assumption | ((repeat' refine And.intro ?_ ?_) <;> first | omega | assumption) | fail)) | (with_reducible refine ip_ok ?_ ?_; focus (first | omega | assumption | ((repeat' refine And.intro ?_ ?_) <;> first | omega | assumption) | fail)) | (with_reducible refine in_ok ?_ ?_; focus (first | omega | assumption | ((repeat' refine And.intro ?_ ?_) <;> first | omega | assumption) | fail)) | (rw [so_bd]; try dsimp only))
          rw [m_X2_move_b62]
          repeat (first | (with_reducible refine gd_ok ?_ ?_; focus (first | omega | assumption | ((repeat' refine And.intro ?_ ?_) <;> first | omega | assumption) | fail)) | (with_reducible refine ip_ok ?_ ?_; focus (first | omega | assumption | ((repeat' refine And.intro ?_ ?_) <;> first | omega | assumption) | fail)) | (with_reducible refine in_ok ?_ ?_; focus (first | omega | assumption | ((repeat' refine And.intro ?_ ?_) <;> first | omega | assumption) | fail)) | (rw [mv, so_bd]; try dsimp only) | (rw [so_bd]; try dsimp only))
          exact q1
        · by_cases r1 : dr y = 1
          · have mv : m_X6_move N g b (ds y) 0 sign = some (uP g (ds y) (g (ds y) + 0), uP b (ds y) (b (ds y) + sign)) := by
              rw [m_X6_move]
              repeat (first | (with_reducible refine gd_ok ?_ ?_; focus (first | omega | assumption | ((repeat' refine And.intro ?_ ?_) <;> first | omega | assumption) | fail)) | (with_reducible refine ip_ok ?_ ?_; focus (first | omega | assumption | ((repeat' refine And.intro ?_ ?_) <;> first | omega | assumption) | fail)) | (with_reducible refine in_ok ?_ ?_; focus (first | omega | assumption | ((repeat' refine And.intro ?_ ?_) <;> first | omega | assumption) | fail)) | (rw [so_bd]; try dsimp only))
              all_goals rfl
            obtain ⟨g', b', q1, q2⟩ := ih (uP g (ds y) (g (ds y) + 0)) (uP b (ds y) (b (ds y) + sign)) (y + 1) (by omega) (by omega) (fun k => by
              have z0 := cntC_s (lb := lb) (ds := ds) (dr := dr) (act := act) (w := 0) (s := k) h0
              have z1 := cntC_s (lb := lb) (ds := ds) (dr := dr) (act := act) (w := 1) (s := k) h0
              have hk' := hk k
              by_cases q : k = ds y
              · subst q
                rw [if_neg (fun z => r0 z.2.2), Int.add_zero] at z0
                rw [if_pos ⟨e, rfl, r1⟩] at z1
                rw [uP_s, uP_s, z0, z1, mul_s]
                omega
              · rw [if_neg (fun z => q z.2.1.symm), Int.add_zero] at z0
                rw [if_neg (fun z => q z.2.1.symm), Int.add_zero] at z1
                rw [uP_o _ _ q, uP_o _ _ q, z0, z1]
                exact hk') (by omega)
            refine ⟨g', b', ?_, q2⟩
            repeat (first | (with_reducible refine gd_ok ?_ ?_; focus (first | omega | assumption | ((repeat' refine And.intro ?_ ?_) <;> first | omega | assumption) | fail)) | (with_reducible refine ip_ok ?_ ?_; focus (first | omega | assumption | ((repeat' refine And.intro ?_ ?_) <;> first | omega | assumption) | fail)) | (with_reducible refine in_ok ?_ ?_; focus (first | omega | assumption | ((repeat' refine And.intro ?_ ?_) <;> first | omega | assumption) | fail)) | (rw [so_bd]; try dsimp only))
            rw [m_X2_move_b46]
            repeat (first | (with_reducible refine gd_ok ?_ ?_; focus (first | omega | assumption | ((repeat' refine And.intro ?_ ?_) <;> first | omega | assumption) | fail)) | (with_reducible refine ip_ok ?_ ?_; focus (first | omega | assumption | ((repeat' refine And.intro ?_ ?_) <;> first | omega | assumption) | fail)) | (with_reducible refine in_ok ?_ ?_; focus (first | omega | assumption | ((repeat' refine And.intro ?_ ?_) <;> first | omega | assumption) | fail)) | (rw [so_bd]; try dsimp only))
            rw [m_X2_move_b62]
            repeat (first | (with_reducible refine gd_ok ?_ ?_; focus (first | omega | assumption | ((repeat' refine And.intro ?_ ?_) <;> first | omega | assumption) | fail)) | (with_reducible refine ip_ok ?_ ?_; focus (first | omega | assumption | ((repeat' refine And.intro ?_ ?_) <;> first | omega | assumption) | fail)) | (with_reducible refine in_ok ?_ ?_; focus (first | omega | assumption | ((repeat' refine And.intro ?_ ?_) <;> first | omega | assumption) | fail)) | (rw [mv, so_bd]; try dsimp only) | (rw [so_bd]; try dsimp only))
            exact q1
          · have mv : m_X6_move N g b (ds y) 0 0 = some (uP g (ds y) (g (ds y) + 0), uP b (ds y) (b (ds y) + 0)) := by
              rw [m_X6_move]
              repeat (first | (with_reducible refine gd_ok ?_ ?_; focus (first | omega | assumption | ((repeat' refine And.intro ?_ ?_) <;> first | omega | assumption) | fail)) | (with_reducible refine ip_ok ?_ ?_; focus (first | omega | assumption | ((repeat' refine And.intro ?_ ?_) <;> first | omega | assumption) | fail)) | (with_reducible refine in_ok ?_ ?_; focus (first | omega | assumption | ((repeat' refine And.intro ?_ ?_) <;> first | omega | assumption) | fail)) | (rw [so_bd]; try dsimp only))
              all_goals rfl
            obtain ⟨g', b', q1, q2⟩ := ih (uP g (ds y) (g (ds y) + 0)) (uP b (ds y) (b (ds y) + 0)) (y + 1) (by omega) (by omega) (fun k => by
              have z0 := cntC_s (lb := lb) (ds := ds) (dr := dr) (act := act) (w := 0) (s := k) h0
              have z1 := cntC_s (lb := lb) (ds := ds) (dr := dr) (act := act) (w := 1) (s := k) h0
              have hk' := hk k
              by_cases q : k = ds y
              · subst q
                rw [if_neg (fun z => r0 z.2.2), Int.add_zero] at z0
                rw [if_neg (fun z => r1 z.2.2), Int.add_zero] at z1
                rw [uP_s, uP_s, z0, z1]
                omega
              · rw [if_neg (fun z => q z.2.1.symm), Int.add_zero] at z0
                rw [if_neg (fun z => q z.2.1.symm), Int.add_zero] at z1
                rw [uP_o _ _ q, uP_o _ _ q, z0, z1]
                exact hk') (by omega)
            refine ⟨g', b', ?_, q2⟩
            repeat (first | (with_reducible refine gd_ok ?_ ?_; focus (first | omega | assumption | ((repeat' refine And.intro ?_ ?_) <;> first | omega | assumption) | fail)) | (with_reducible refine ip_ok ?_ ?_; focus (first | omega | assumption | ((repeat' refine And.intro ?_ ?_) <;> first | omega | assumption) | fail)) | (with_reducible refine in_ok ?_ ?_; focus (first | omega | assumption | ((repeat' refine And.intro ?_ ?_) <;> first | omega | assumption) | fail)) | (rw [so_bd]; try dsimp only))
            rw [m_X2_move_b46]
            repeat (first | (with_reducible refine gd_ok ?_ ?_; focus (first | omega | assumption | ((repeat' refine And.intro ?_ ?_) <;> first | omega | assumption) | fail)) | (with_reducible refine ip_ok ?_ ?_; focus (first | omega | assumption | ((repeat' refine And.intro ?_ ?_) <;> first | omega | assumption) | fail)) | (with_reducible refine in_ok ?_ ?_; focus (first | omega | assumption | ((repeat' refine And.intro ?_ ?_) <;> first | omega | assumption) | fail)) | (rw [so_bd]; try dsimp only))
            rw [m_X2_move_b62]
            repeat (first | (with_reducible refine gd_ok ?_ ?_; focus (first | omega | assumption | ((repeat' refine And.intro ?_ ?_) <;> first | omega | assumption) | fail)) | (with_reducible refine ip_ok ?_ ?_; focus (first | omega | assumption | ((repeat' refine And.intro ?_ ?_) <;> first | omega | assumption) | fail)) | (with_reducible refine in_ok ?_ ?_; focus (first | omega | assumption | ((repeat' refine And.intro ?_ ?_) <;> first | omega | assumption) | fail)) | (rw [mv, so_bd]; try dsimp only) | (rw [so_bd]; try dsimp only))
            exact q1
      · obtain ⟨g', b', q1, q2⟩ := ih g b (y + 1) (by omega) (by omega) (fun k => by
          rw [cntC_s h0, cntC_s h0, if_neg (fun z => e z.1), if_neg (fun z => e z.1), Int.add_zero, Int.add_zero]
          exact hk k) (by omega)
        refine ⟨g', b', ?_, q2⟩
        repeat (first | (with_reducible refine gd_ok ?_ ?_; focus (first | omega | assumption | ((repeat' refine And.intro ?_ ?_) <;> first | omega | assumption) | fail)) | (with_reducible refine ip_ok ?_ ?_; focus (first | omega | assumption | ((repeat' refine And.intro ?_ ?_) <;> first | omega | assumption) | fail)) | (with_reducible refine in_ok ?_ ?_; focus (first | omega | assumption | ((repeat' refine And.intro ?_ ?_) <;> first | omega | assumption) | fail)) | (rw [so_bd]; try dsimp only))
        exact q1
theorem dmove_ok (hN : 40000 ≤ N) (hz : 0 ≤ dz ∧ dz ≤ 40) (hd : ∀ i, 0 ≤ i → i < dz → (0 ≤ ds i ∧ ds i < 1000) ∧ (-1 ≤ dr i ∧ dr i ≤ 1) ∧ rI (lb i)) (ha : rI act) {g b : Int → Int} : ∃ g' b', m_X2_move N dz ds dr lb g b act sign = some (g', b') ∧ ∀ k, g' k = g k + sign * cntC lb ds dr act 0 k dz ∧ b' k = b k + sign * cntC lb ds dr act 1 k dz :=
  dmove_b3_ok hz hd ha N g b 0 (Int.le_refl 0) hz.1 (fun k => by
    have z : ∀ w, cntC lb ds dr act w k 0 = 0 := fun _ => rfl
    rw [z, z, Int.mul_zero, Int.add_zero, Int.add_zero]
    exact ⟨rfl, rfl⟩) (by omega)
theorem unmark_ok (hN : 40000 ≤ N) (hz : 0 ≤ dz ∧ dz ≤ 40) (hd : ∀ i, 0 ≤ i → i < dz → rI (lb i)) (ha : rI act) : ∃ lb', m_X2_unmark N dz lb act = some lb' ∧ ∀ i, lb' i = if (0 ≤ i ∧ i < dz) ∧ lb i = act then 0 else lb i := by
  have lp : ∀ (f : Nat) (l : Int → Int) (y : Int), 0 ≤ y → y ≤ dz → (∀ i, l i = if (0 ≤ i ∧ i < y) ∧ lb i = act then 0 else lb i) → (dz - y).toNat < f → ∃ lb', m_X2_unmark_b2 N dz act f l y = some lb' ∧ ∀ i, lb' i = if (0 ≤ i ∧ i < dz) ∧ lb i = act then 0 else lb i := by
    intro f
    induction f with
    | zero => intro l y _ _ _ h; omega
    | succ f ih =>
      intro l y h0 h1 hk hf
      rw [m_X2_unmark_b2]
      by_cases c : dz ≤ y
      · refine ⟨l, ?_, fun i => by rw [show dz = y by omega]; exact hk i⟩
        repeat (first | (with_reducible refine gd_ok ?_ ?_; focus (first | omega | assumption | ((repeat' refine And.intro ?_ ?_) <;> first | omega | assumption) | fail)) | (with_reducible refine ip_ok ?_ ?_; focus (first | omega | assumption | ((repeat' refine And.intro ?_ ?_) <;> first | omega | assumption) | fail)) | (with_reducible refine in_ok ?_ ?_; focus (first | omega | assumption | ((repeat' refine And.intro ?_ ?_) <;> first | omega | assumption) | fail)) | (rw [so_bd]; try dsimp only))
        all_goals rfl
      · have el : l y = lb y := by rw [hk y, if_neg (by omega)]
        have hr := hd y h0 (by omega)
        rw [el]
        by_cases e : lb y = act
        · obtain ⟨l', q1, q2⟩ := ih (uP l y 0) (y + 1) (by omega) (by omega) (fun i => by
            by_cases q : i = y
            · rw [q, uP_s, if_pos ⟨⟨h0, by omega⟩, e⟩]
            · rw [uP_o _ _ q, hk i]
              by_cases z : (0 ≤ i ∧ i < y) ∧ lb i = act
              · rw [if_pos z, if_pos ⟨⟨z.1.1, by omega⟩, z.2⟩]
              · rw [if_neg z, if_neg (fun k => z ⟨⟨k.1.1, by omega⟩, k.2⟩)]) (by omega)
          refine ⟨l', ?_, q2⟩
          repeat (first | (with_reducible refine gd_ok ?_ ?_; focus (first | omega | assumption | ((repeat' refine And.intro ?_ ?_) <;> first | omega | assumption) | fail)) | (with_reducible refine ip_ok ?_ ?_; focus (first | omega | assumption | ((repeat' refine And.intro ?_ ?_) <;> first | omega | assumption) | fail)) | (with_reducible refine in_ok ?_ ?_; focus (first | omega | assumption | ((repeat' refine And.intro ?_ ?_) <;> first | omega | assumption) | fail)) | (rw [so_bd]; try dsimp only))
          exact q1
        · obtain ⟨l', q1, q2⟩ := ih l (y + 1) (by omega) (by omega) (fun i => by
            rw [hk i]
            by_cases z : (0 ≤ i ∧ i < y) ∧ lb i = act
            · rw [if_pos z, if_pos ⟨⟨z.1.1, by omega⟩, z.2⟩]
            · rw [if_neg z, if_neg (fun k => z ⟨⟨k.1.1, by
                by_cases w : i = y
                · rw [w] at k; exact absurd k.2 e
                · omega⟩, k.2⟩)]) (by omega)
          refine ⟨l', ?_, q2⟩
          repeat (first | (with_reducible refine gd_ok ?_ ?_; focus (first | omega | assumption | ((repeat' refine And.intro ?_ ?_) <;> first | omega | assumption) | fail)) | (with_reducible refine ip_ok ?_ ?_; focus (first | omega | assumption | ((repeat' refine And.intro ?_ ?_) <;> first | omega | assumption) | fail)) | (with_reducible refine in_ok ?_ ?_; focus (first | omega | assumption | ((repeat' refine And.intro ?_ ?_) <;> first | omega | assumption) | fail)) | (rw [so_bd]; try dsimp only))
          exact q1
  exact lp N lb 0 (Int.le_refl 0) hz.1 (fun i => by rw [if_neg (by omega)]) (by omega)
/-- those that wait to be learnt -/
def pnd (dr dl : Int → Int) (i : Int) : Prop := dr i ≠ -1 ∧ dl i = 0
theorem mark_ok {dl : Int → Int} {ln : Int} (hN : 40000 ≤ N) (hz : 0 ≤ dz ∧ dz ≤ 40) (hd : ∀ i, 0 ≤ i → i < dz → rI (dr i) ∧ rI (dl i)) (hl : 0 ≤ ln ∧ ln < 1000000) : ∃ lb', m_X2_markPending N dz dr ln dl = some (ln + 1, ln + 1, lb') ∧ (∀ i, 0 ≤ i → i < dz → pnd dr dl i → lb' i = ln + 1) ∧ ∀ i, ¬ ((0 ≤ i ∧ i < dz) ∧ pnd dr dl i) → lb' i = dl i := by
  have lp : ∀ (f : Nat) (l : Int → Int) (y : Int), 0 ≤ y → y ≤ dz → (∀ i, 0 ≤ i → i < y → pnd dr dl i → l i = ln + 1) → (∀ i, ¬ ((0 ≤ i ∧ i < y) ∧ pnd dr dl i) → l i = dl i) → (dz - y).toNat < f → ∃ lb', m_X2_markPending_b12 N dz dr (ln + 1) f l y = some (ln + 1, ln + 1, lb') ∧ (∀ i, 0 ≤ i → i < dz → pnd dr dl i → lb' i = ln + 1) ∧ ∀ i, ¬ ((0 ≤ i ∧ i < dz) ∧ pnd dr dl i) → lb' i = dl i := by
    intro f
    induction f with
    | zero => intro l y _ _ _ _ h; omega
    | succ f ih =>
      intro l y h0 h1 ha hb hf
      rw [m_X2_markPending_b12]
      by_cases c : dz ≤ y
      · have e : dz = y := by omega
        subst e
        refine ⟨l, ?_, ha, hb⟩
        repeat (first | (with_reducible refine gd_ok ?_ ?_; focus (first | omega | assumption | ((repeat' refine And.intro ?_ ?_) <;> first | omega | assumption) | fail)) | (with_reducible refine ip_ok ?_ ?_; focus (first | omega | assumption | ((repeat' refine And.intro ?_ ?_) <;> first | omega | assumption) | fail)) | (with_reducible refine in_ok ?_ ?_; focus (first | omega | assumption | ((repeat' refine And.intro ?_ ?_) <;> first | omega | assumption) | fail)) | (rw [so_bd]; try dsimp only))
        all_goals rfl
      · have el : l y = dl y := hb y (fun z => by omega)
        obtain ⟨r1, r2⟩ := hd y h0 (by omega)
        by_cases p : pnd dr dl y
        · have p1 := p.1
          have p2 := p.2
          have pe : m_X2_isPending N dr l y = some 1 := by
            rw [m_X2_isPending, el]
            repeat (first | (with_reducible refine gd_ok ?_ ?_; focus (first | omega | assumption | ((repeat' refine And.intro ?_ ?_) <;> first | omega | assumption) | fail)) | (with_reducible refine ip_ok ?_ ?_; focus (first | omega | assumption | ((repeat' refine And.intro ?_ ?_) <;> first | omega | assumption) | fail)) | (with_reducible refine in_ok ?_ ?_; focus (first | omega | assumption | ((repeat' refine And.intro ?_ ?_) <;> first | omega | assumption) | fail)) | (rw [so_bd]; try dsimp only))
            all_goals rfl
          obtain ⟨l', q1, q2, q3⟩ := ih (uP l y (ln + 1)) (y + 1) (by omega) (by omega) (fun i i0 i1 pi => by
            by_cases e : i = y
            · rw [e, uP_s]
            · rw [uP_o _ _ e]; exact ha i i0 (by omega) pi) (fun i ni => by
            have e : ¬ i = y := fun e => ni ⟨by omega, by rw [e]; exact p⟩
            rw [uP_o _ _ e]
            exact hb i (fun z => ni ⟨by omega, z.2⟩)) (by omega)
          refine ⟨l', ?_, q2, q3⟩
          repeat (first | (with_reducible refine gd_ok ?_ ?_; focus (first | omega | assumption | ((repeat' refine And.intro ?_ ?_) <;> first | omega | assumption) | fail)) | (with_reducible refine ip_ok ?_ ?_; focus (first | omega | assumption | ((repeat' refine And.intro ?_ ?_) <;> first | omega | assumption) | fail)) | (with_reducible refine in_ok ?_ ?_; focus (first | omega | assumption | ((repeat' refine And.intro ?_ ?_) <;> first | omega | assumption) | fail)) | (rw [pe, so_bd]; try dsimp only) | (rw [so_bd]; try dsimp only))
          exact q1
        · have pe : m_X2_isPending N dr l y = some 0 := by
            rw [m_X2_isPending, el]
            by_cases d : dr y = -1
            · repeat (first | (with_reducible refine gd_ok ?_ ?_; focus (first | omega | assumption | ((repeat' refine And.intro ?_ ?_) <;> first | omega | assumption) | fail)) | (with_reducible refine ip_ok ?_ ?_; focus (first | omega | assumption | ((repeat' refine And.intro ?_ ?_) <;> first | omega | assumption) | fail)) | (with_reducible refine in_ok ?_ ?_; focus (first | omega | assumption | ((repeat' refine And.intro ?_ ?_) <;> first | omega | assumption) | fail)) | (rw [so_bd]; try dsimp only))
              all_goals rfl
            · have d2 : ¬ dl y = 0 := fun z => p ⟨d, z⟩
              repeat (first | (with_reducible refine gd_ok ?_ ?_; focus (first | omega | assumption | ((repeat' refine And.intro ?_ ?_) <;> first | omega | assumption) | fail)) | (with_reducible refine ip_ok ?_ ?_; focus (first | omega | assumption | ((repeat' refine And.intro ?_ ?_) <;> first | omega | assumption) | fail)) | (with_reducible refine in_ok ?_ ?_; focus (first | omega | assumption | ((repeat' refine And.intro ?_ ?_) <;> first | omega | assumption) | fail)) | (rw [so_bd]; try dsimp only))
              all_goals rfl
          obtain ⟨l', q1, q2, q3⟩ := ih l (y + 1) (by omega) (by omega) (fun i i0 i1 pi => by
            by_cases e : i = y
            · rw [e] at pi; exact absurd pi p
            · exact ha i i0 (by omega) pi) (fun i ni => by
            refine hb i (fun z => ni ⟨by omega, z.2⟩)) (by omega)
          refine ⟨l', ?_, q2, q3⟩
          repeat (first | (with_reducible refine gd_ok ?_ ?_; focus (first | omega | assumption | ((repeat' refine And.intro ?_ ?_) <;> first | omega | assumption) | fail)) | (with_reducible refine ip_ok ?_ ?_; focus (first | omega | assumption | ((repeat' refine And.intro ?_ ?_) <;> first | omega | assumption) | fail)) | (with_reducible refine in_ok ?_ ?_; focus (first | omega | assumption | ((repeat' refine And.intro ?_ ?_) <;> first | omega | assumption) | fail)) | (rw [pe, so_bd]; try dsimp only) | (rw [so_bd]; try dsimp only))
          exact q1
  exact lp N dl 0 (Int.le_refl 0) hz.1 (fun i i0 i1 => by omega) (fun i _ => rfl) (by omega)
theorem learntIn_ok (hN : 40000 ≤ N) (hz : 0 ≤ dz ∧ dz ≤ 40) (hd : ∀ i, 0 ≤ i → i < dz → rI (lb i)) (ha : rI act) : m_X2_learntIn N dz lb act = some (sI (fun i => if lb i = act then 1 else 0) dz) := by
  have lp : ∀ (f : Nat) (y2 y : Int), 0 ≤ y → y ≤ dz → y2 = sI (fun i => if lb i = act then 1 else 0) y → (dz - y).toNat < f → m_X2_learntIn_b4 N dz lb act f y2 y = some (sI (fun i => if lb i = act then 1 else 0) dz) := by
    intro f
    induction f with
    | zero => intro y2 y _ _ _ h; omega
    | succ f ih =>
      intro y2 y h0 h1 hy hf
      rw [m_X2_learntIn_b4]
      by_cases c : dz ≤ y
      · repeat (first | (with_reducible refine gd_ok ?_ ?_; focus (first | omega | assumption | ((repeat' refine And.intro ?_ ?_) <;> first | omega | assumption) | fail)) | (with_reducible refine ip_ok ?_ ?_; focus (first | omega | assumption | ((repeat' refine And.intro ?_ ?_) <;> first | omega | assumption) | fail)) | (with_reducible refine in_ok ?_ ?_; focus (first | omega | assumption | ((repeat' refine And.intro ?_ ?_) <;> first | omega | assumption) | fail)) | (rw [so_bd]; try dsimp only))
        rw [hy, show y = dz by omega]
      · have hr := hd y h0 (by omega)
        have es : sI (fun i => if lb i = act then 1 else 0) (y + 1) = sI (fun i => if lb i = act then (1 : Int) else 0) y + (if lb y = act then 1 else 0) := sI_s _ h0
        by_cases e : lb y = act
        · rw [if_pos e] at es
          repeat (first | (with_reducible refine gd_ok ?_ ?_; focus (first | omega | assumption | ((repeat' refine And.intro ?_ ?_) <;> first | omega | assumption) | fail)) | (with_reducible refine ip_ok ?_ ?_; focus (first | omega | assumption | ((repeat' refine And.intro ?_ ?_) <;> first | omega | assumption) | fail)) | (with_reducible refine in_ok ?_ ?_; focus (first | omega | assumption | ((repeat' refine And.intro ?_ ?_) <;> first | omega | assumption) | fail)) | (rw [so_bd]; try dsimp only))
          exact ih (y2 + 1) (y + 1) (by omega) (by omega) (by rw [es, hy]) (by omega)
        · rw [if_neg e] at es
          repeat (first | (with_reducible refine gd_ok ?_ ?_; focus (first | omega | assumption | ((repeat' refine And.intro ?_ ?_) <;> first | omega | assumption) | fail)) | (with_reducible refine ip_ok ?_ ?_; focus (first | omega | assumption | ((repeat' refine And.intro ?_ ?_) <;> first | omega | assumption) | fail)) | (with_reducible refine in_ok ?_ ?_; focus (first | omega | assumption | ((repeat' refine And.intro ?_ ?_) <;> first | omega | assumption) | fail)) | (rw [so_bd]; try dsimp only))
          exact ih y2 (y + 1) (by omega) (by omega) (by rw [es, hy]; omega) (by omega)
  exact lp N 0 0 (Int.le_refl 0) hz.1 rfl (by omega)
end
