/-! acts: states, snapshots -/
section
variable {N : Nat}
theorem remembers_ok (hN : 40000 ≤ N) {st was : Int → Int} : ∃ w, m_X13_remembers N st was = some w ∧ ∀ k, 0 ≤ k → k < 3206 → w k = st k := by
  have lp : ∀ (f : Nat) (w : Int → Int) (y : Int), 0 ≤ y → y ≤ 3206 → (∀ k, 0 ≤ k → k < y → w k = st k) → (3206 - y).toNat < f → ∃ w', m_X13_remembers_b2 N st f w y = some w' ∧ ∀ k, 0 ≤ k → k < 3206 → w' k = st k := by
    intro f
    induction f with
    | zero => intro w y _ _ _ h; omega
    | succ f ih =>
      intro w y h0 h1 hw hf
      rw [m_X13_remembers_b2]
      by_cases c : 3206 ≤ y
      · refine ⟨w, ?_, fun k k0 k1 => hw k k0 (by omega)⟩
        repeat (first | (with_reducible refine gd_ok ?_ ?_; focus (first | omega | assumption | ((repeat' refine And.intro ?_ ?_) <;> first | omega | assumption) | fail)) | (with_reducible refine ip_ok ?_ ?_; focus (first | omega | assumption | ((repeat' refine And.intro ?_ ?_) <;> first | omega | assumption) | fail)) | (with_reducible refine in_ok ?_ ?_; focus (first | omega | assumption | ((repeat' refine And.intro ?_ ?_) <;> first | omega | assumption) | fail)) | (rw [so_bd]; try dsimp only))
        all_goals rfl
      · obtain ⟨w', q1, q2⟩ := ih (uP w y (st y)) (y + 1) (by omega) (by omega) (fun k k0 k1 => by
          by_cases e : k = y
          · rw [e, uP_s]
          · rw [uP_o _ _ e]; exact hw k k0 (by omega)) (by omega)
        refine ⟨w', ?_, q2⟩
        repeat (first | (with_reducible refine gd_ok ?_ ?_; focus (first | omega | assumption | ((repeat' refine And.intro ?_ ?_) <;> first | omega | assumption) | fail)) | (with_reducible refine ip_ok ?_ ?_; focus (first | omega | assumption | ((repeat' refine And.intro ?_ ?_) <;> first | omega | assumption) | fail)) | (with_reducible refine in_ok ?_ ?_; focus (first | omega | assumption | ((repeat' refine And.intro ?_ ?_) <;> first | omega | assumption) | fail)) | (rw [so_bd]; try dsimp only))
        exact q1
  exact lp N was 0 (by decide) (by decide) (fun k k0 k1 => by omega) (by omega)
theorem forgets_ok (hN : 40000 ≤ N) {st was : Int → Int} : ∃ w, m_X13_forgets N was st = some w ∧ ∀ k, 0 ≤ k → k < 3206 → w k = was k := by
  have lp : ∀ (f : Nat) (w : Int → Int) (y : Int), 0 ≤ y → y ≤ 3206 → (∀ k, 0 ≤ k → k < y → w k = was k) → (3206 - y).toNat < f → ∃ w', m_X13_forgets_b2 N was f w y = some w' ∧ ∀ k, 0 ≤ k → k < 3206 → w' k = was k := by
    intro f
    induction f with
    | zero => intro w y _ _ _ h; omega
    | succ f ih =>
      intro w y h0 h1 hw hf
      rw [m_X13_forgets_b2]
      by_cases c : 3206 ≤ y
      · refine ⟨w, ?_, fun k k0 k1 => hw k k0 (by omega)⟩
        repeat (first | (with_reducible refine gd_ok ?_ ?_; focus (first | omega | assumption | ((repeat' refine And.intro ?_ ?_) <;> first | omega | assumption) | fail)) | (with_reducible refine ip_ok ?_ ?_; focus (first | omega | assumption | ((repeat' refine And.intro ?_ ?_) <;> first | omega | assumption) | fail)) | (with_reducible refine in_ok ?_ ?_; focus (first | omega | assumption | ((repeat' refine And.intro ?_ ?_) <;> first | omega | assumption) | fail)) | (rw [so_bd]; try dsimp only))
        all_goals rfl
      · obtain ⟨w', q1, q2⟩ := ih (uP w y (was y)) (y + 1) (by omega) (by omega) (fun k k0 k1 => by
          by_cases e : k = y
          · rw [e, uP_s]
          · rw [uP_o _ _ e]; exact hw k k0 (by omega)) (by omega)
        refine ⟨w', ?_, q2⟩
        repeat (first | (with_reducible refine gd_ok ?_ ?_; focus (first | omega | assumption | ((repeat' refine And.intro ?_ ?_) <;> first | omega | assumption) | fail)) | (with_reducible refine ip_ok ?_ ?_; focus (first | omega | assumption | ((repeat' refine And.intro ?_ ?_) <;> first | omega | assumption) | fail)) | (with_reducible refine in_ok ?_ ?_; focus (first | omega | assumption | ((repeat' refine And.intro ?_ ?_) <;> first | omega | assumption) | fail)) | (rw [so_bd]; try dsimp only))
        exact q1
  exact lp N st 0 (by decide) (by decide) (fun k k0 k1 => by omega) (by omega)
/-- a block of the kept states -/
def blk (kp : Int → Int) (j : Int) : Int → Int := fun k => kp (3206 * j + k)
theorem keeps_b100_ok {st was : Int → Int} {km : Int} (hk : 0 ≤ km ∧ km ≤ 9) : ∀ (f : Nat) (kp : Int → Int) (y : Int), 0 ≤ y → y ≤ 3206 → (3206 - y).toNat < f → ∃ kp', m_X13_keeps_b100 N st was km f kp y = some (1, km + 1, kp') ∧ (∀ k, k < 3206 * km + y → kp' k = kp k) ∧ ∀ k, y ≤ k → k < 3206 → kp' (3206 * km + k) = was k := by
  intro f
  induction f with
  | zero => intro kp y _ _ h; omega
  | succ f ih =>
    intro kp y h0 h1 hf
    rw [m_X13_keeps_b100]
    by_cases c : 3206 ≤ y
    · refine ⟨kp, ?_, fun k _ => rfl, fun k k0 k1 => by omega⟩
      repeat (first | (with_reducible refine gd_ok ?_ ?_; focus (first | omega | assumption | ((repeat' refine And.intro ?_ ?_) <;> first | omega | assumption) | fail)) | (with_reducible refine ip_ok ?_ ?_; focus (first | omega | assumption | ((repeat' refine And.intro ?_ ?_) <;> first | omega | assumption) | fail)) | (with_reducible refine in_ok ?_ ?_; focus (first | omega | assumption | ((repeat' refine And.intro ?_ ?_) <;> first | omega | assumption) | fail)) | (rw [so_bd]; try dsimp only))
      all_goals rfl
    · obtain ⟨kp', q1, q2, q3⟩ := ih (uP kp (3206 * km + y) (was y)) (y + 1) (by omega) (by omega) (by omega)
      refine ⟨kp', ?_, fun k hk => ?_, fun k k0 k1 => ?_⟩
      · repeat (first | (with_reducible refine gd_ok ?_ ?_; focus (first | omega | assumption | ((repeat' refine And.intro ?_ ?_) <;> first | omega | assumption) | fail)) | (with_reducible refine ip_ok ?_ ?_; focus (first | omega | assumption | ((repeat' refine And.intro ?_ ?_) <;> first | omega | assumption) | fail)) | (with_reducible refine in_ok ?_ ?_; focus (first | omega | assumption | ((repeat' refine And.intro ?_ ?_) <;> first | omega | assumption) | fail)) | (rw [so_bd]; try dsimp only))
        exact q1
      · rw [q2 k (by omega), uP_o _ _ (by omega)]
      · by_cases e : k = y
        · rw [e, q2 _ (by omega), uP_s]
        · exact q3 k (by omega) k1
theorem keeps_b59_ok {st was : Int → Int} : ∀ (f : Nat) (kp : Int → Int) (y : Int) (kp0 : Int → Int), 0 ≤ y → y ≤ 28854 → (∀ k, 0 ≤ k → k < y → kp k = kp0 (k + 3206)) → (∀ k, y ≤ k → kp k = kp0 k) → (28854 - y).toNat < f → ∃ kp', m_X13_keeps_b59 N st was 10 f kp y = m_X13_keeps_b98 N st was (10 - 1) kp' ∧ ∀ k, 0 ≤ k → k < 28854 → kp' k = kp0 (k + 3206) := by
  intro f
  induction f with
  | zero => intro kp y kp0 _ _ _ _ h; omega
  | succ f ih =>
    intro kp y kp0 h0 h1 ha hb hf
    rw [m_X13_keeps_b59]
    by_cases c : 28854 ≤ y
    · refine ⟨kp, ?_, fun k k0 k1 => ha k k0 (by omega)⟩
      repeat (first | (with_reducible refine gd_ok ?_ ?_; focus (first | omega | assumption | ((repeat' refine And.intro ?_ ?_) <;> first | omega | assumption) | fail)) | (with_reducible refine ip_ok ?_ ?_; focus (first | omega | assumption | ((repeat' refine And.intro ?_ ?_) <;> first | omega | assumption) | fail)) | (with_reducible refine in_ok ?_ ?_; focus (first | omega | assumption | ((repeat' refine And.intro ?_ ?_) <;> first | omega | assumption) | fail)) | (rw [so_bd]; try dsimp only))
      all_goals rfl
    · obtain ⟨kp', q1, q2⟩ := ih (uP kp y (kp (y + 3206))) (y + 1) kp0 (by omega) (by omega) (fun k k0 k1 => by
        by_cases e : k = y
        · rw [e, uP_s, hb _ (by omega)]
        · rw [uP_o _ _ e]; exact ha k k0 (by omega)) (fun k k0 => by rw [uP_o _ _ (by omega)]; exact hb k (by omega)) (by omega)
      refine ⟨kp', ?_, q2⟩
      repeat (first | (with_reducible refine gd_ok ?_ ?_; focus (first | omega | assumption | ((repeat' refine And.intro ?_ ?_) <;> first | omega | assumption) | fail)) | (with_reducible refine ip_ok ?_ ?_; focus (first | omega | assumption | ((repeat' refine And.intro ?_ ?_) <;> first | omega | assumption) | fail)) | (with_reducible refine in_ok ?_ ?_; focus (first | omega | assumption | ((repeat' refine And.intro ?_ ?_) <;> first | omega | assumption) | fail)) | (rw [so_bd]; try dsimp only))
      exact q1
/-- the kept states behind one more: the last ten -/
def KpR (kp kp' was : Int → Int) (n n' : Int) : Prop := (n < 10 → n' = n + 1 ∧ (∀ j k, 0 ≤ j → j < n → 0 ≤ k → k < 3206 → blk kp' j k = blk kp j k) ∧ ∀ k, 0 ≤ k → k < 3206 → blk kp' n k = was k) ∧ (n = 10 → n' = 10 ∧ (∀ j k, 0 ≤ j → j < 9 → 0 ≤ k → k < 3206 → blk kp' j k = blk kp (j + 1) k) ∧ ∀ k, 0 ≤ k → k < 3206 → blk kp' 9 k = was k)
theorem keeps_b4_1 (hN : 40000 ≤ N) {st was kp : Int → Int} {km : Int} (hk : 0 ≤ km ∧ km ≤ 10) (hs : ∀ k, 0 ≤ k → k < 3206 → rI (st k) ∧ rI (was k)) : ∀ (f : Nat) (y : Int), 0 ≤ y → y ≤ 3206 → (3206 - y).toNat < f → ∃ km' kp', m_X13_keeps_b4 N st was km kp f 1 y = some (1, km', kp') ∧ KpR kp kp' was km km' := by
  intro f
  induction f with
  | zero => intro y _ _ h; omega
  | succ f ih =>
    intro y h0 h1 hf
    rw [m_X13_keeps_b4]
    by_cases c : 3206 ≤ y
    · by_cases d : km = 10
      · subst d
        obtain ⟨kp1, a1, a2⟩ := keeps_b59_ok (N := N) (st := st) (was := was) N kp 0 kp (by decide) (by decide) (fun k k0 k1 => by omega) (fun k _ => rfl) (by omega)
        obtain ⟨kp2, b1, b2, b3⟩ := keeps_b100_ok (N := N) (st := st) (was := was) (km := 10 - 1) ⟨by decide, by decide⟩ N kp1 0 (by decide) (by decide) (by omega)
        refine ⟨10 - 1 + 1, kp2, ?_, fun h => by omega, fun _ => ⟨rfl, fun j k j0 j1 k0 k1 => ?_, fun k k0 k1 => b3 k k0 k1⟩⟩
        · repeat (first | (with_reducible refine gd_ok ?_ ?_; focus (first | omega | assumption | ((repeat' refine And.intro ?_ ?_) <;> first | omega | assumption) | fail)) | (with_reducible refine ip_ok ?_ ?_; focus (first | omega | assumption | ((repeat' refine And.intro ?_ ?_) <;> first | omega | assumption) | fail)) | (with_reducible refine in_ok ?_ ?_; focus (first | omega | assumption | ((repeat' refine And.intro ?_ ?_) <;> first | omega | assumption) | fail)) | (rw [so_bd]; try dsimp only))
          rw [a1]
          exact b1
        · unfold blk
          rw [b2 _ (by omega), a2 _ (by omega) (by omega), show 3206 * j + k + 3206 = 3206 * (j + 1) + k by omega]
      · obtain ⟨kp2, b1, b2, b3⟩ := keeps_b100_ok (N := N) (st := st) (was := was) (km := km) ⟨by omega, by omega⟩ N kp 0 (by decide) (by decide) (by omega)
        refine ⟨km + 1, kp2, ?_, fun h => ⟨rfl, fun j k j0 j1 k0 k1 => b2 _ (by omega), fun k k0 k1 => b3 k k0 k1⟩, fun h => by omega⟩
        repeat (first | (with_reducible refine gd_ok ?_ ?_; focus (first | omega | assumption | ((repeat' refine And.intro ?_ ?_) <;> first | omega | assumption) | fail)) | (with_reducible refine ip_ok ?_ ?_; focus (first | omega | assumption | ((repeat' refine And.intro ?_ ?_) <;> first | omega | assumption) | fail)) | (with_reducible refine in_ok ?_ ?_; focus (first | omega | assumption | ((repeat' refine And.intro ?_ ?_) <;> first | omega | assumption) | fail)) | (rw [so_bd]; try dsimp only))
        exact b1
    · obtain ⟨km', kp', q1, q2⟩ := ih (y + 1) (by omega) (by omega) (by omega)
      refine ⟨km', kp', ?_, q2⟩
      repeat (first | (with_reducible refine gd_ok ?_ ?_; focus (first | omega | assumption | ((repeat' refine And.intro ?_ ?_) <;> first | omega | assumption) | fail)) | (with_reducible refine ip_ok ?_ ?_; focus (first | omega | assumption | ((repeat' refine And.intro ?_ ?_) <;> first | omega | assumption) | fail)) | (with_reducible refine in_ok ?_ ?_; focus (first | omega | assumption | ((repeat' refine And.intro ?_ ?_) <;> first | omega | assumption) | fail)) | (rw [so_bd]; try dsimp only))
      exact q1
theorem keeps_ok (hN : 40000 ≤ N) {st was kp : Int → Int} {km : Int} (hk : 0 ≤ km ∧ km ≤ 10) (hs : ∀ k, 0 ≤ k → k < 3206 → rI (st k) ∧ rI (was k)) {d : Int} (hd : 0 ≤ d ∧ d < 3206) (hne : ¬ st d = was d) : ∃ km' kp', m_X13_keeps N st was km kp = some (1, km', kp') ∧ KpR kp kp' was km km' := by
  have lp : ∀ (f : Nat) (y : Int), 0 ≤ y → y ≤ d → (3206 - y).toNat < f → ∃ km' kp', m_X13_keeps_b4 N st was km kp f 0 y = some (1, km', kp') ∧ KpR kp kp' was km km' := by
    intro f
    induction f with
    | zero => intro y _ _ h; omega
    | succ f ih =>
      intro y h0 h1 hf
      have hy := hs y h0 (by omega)
      rw [m_X13_keeps_b4]
      by_cases c : st y = was y
      · have nd : y ≠ d := fun e => hne (by rw [← e]; exact c)
        obtain ⟨km', kp', q1, q2⟩ := ih (y + 1) (by omega) (by omega) (by omega)
        refine ⟨km', kp', ?_, q2⟩
        repeat (first | (with_reducible refine gd_ok ?_ ?_; focus (first | omega | assumption | ((repeat' refine And.intro ?_ ?_) <;> first | omega | assumption) | fail)) | (with_reducible refine ip_ok ?_ ?_; focus (first | omega | assumption | ((repeat' refine And.intro ?_ ?_) <;> first | omega | assumption) | fail)) | (with_reducible refine in_ok ?_ ?_; focus (first | omega | assumption | ((repeat' refine And.intro ?_ ?_) <;> first | omega | assumption) | fail)) | (rw [hy.1, so_bd]; try dsimp only) | (rw [hy.2, so_bd]; try dsimp only) | (rw [so_bd]; try dsimp only))
        exact q1
      · obtain ⟨km', kp', q1, q2⟩ := keeps_b4_1 (N := N) (kp := kp) hN hk hs f (y + 1) (by omega) (by omega) (by omega)
        refine ⟨km', kp', ?_, q2⟩
        repeat (first | (with_reducible refine gd_ok ?_ ?_; focus (first | omega | assumption | ((repeat' refine And.intro ?_ ?_) <;> first | omega | assumption) | fail)) | (with_reducible refine ip_ok ?_ ?_; focus (first | omega | assumption | ((repeat' refine And.intro ?_ ?_) <;> first | omega | assumption) | fail)) | (with_reducible refine in_ok ?_ ?_; focus (first | omega | assumption | ((repeat' refine And.intro ?_ ?_) <;> first | omega | assumption) | fail)) | (rw [so_bd]; try dsimp only))
        exact q1
  exact lp N 0 (by decide) hd.1 (by omega)
theorem keeps_no (hN : 40000 ≤ N) {st was kp : Int → Int} {km : Int} (hs : ∀ k, 0 ≤ k → k < 3206 → rI (st k) ∧ rI (was k)) (he : ∀ k, 0 ≤ k → k < 3206 → st k = was k) : m_X13_keeps N st was km kp = some (0, km, kp) := by
  have lp : ∀ (f : Nat) (y : Int), 0 ≤ y → y ≤ 3206 → (3206 - y).toNat < f → m_X13_keeps_b4 N st was km kp f 0 y = some (0, km, kp) := by
    intro f
    induction f with
    | zero => intro y _ _ h; omega
    | succ f ih =>
      intro y h0 h1 hf
      rw [m_X13_keeps_b4]
      by_cases c : 3206 ≤ y
      · repeat (first | (with_reducible refine gd_ok ?_ ?_; focus (first | omega | assumption | ((repeat' refine And.intro ?_ ?_) <;> first | omega | assumption) | fail)) | (with_reducible refine ip_ok ?_ ?_; focus (first | omega | assumption | ((repeat' refine And.intro ?_ ?_) <;> first | omega | assumption) | fail)) | (with_reducible refine in_ok ?_ ?_; focus (first | omega | assumption | ((repeat' refine And.intro ?_ ?_) <;> first | omega | assumption) | fail)) | (rw [so_bd]; try dsimp only))
        all_goals rfl
      · have hy := hs y h0 (by omega)
        have hq := he y h0 (by omega)
        repeat (first | (with_reducible refine gd_ok ?_ ?_; focus (first | omega | assumption | ((repeat' refine And.intro ?_ ?_) <;> first | omega | assumption) | fail)) | (with_reducible refine ip_ok ?_ ?_; focus (first | omega | assumption | ((repeat' refine And.intro ?_ ?_) <;> first | omega | assumption) | fail)) | (with_reducible refine in_ok ?_ ?_; focus (first | omega | assumption | ((repeat' refine And.intro ?_ ?_) <;> first | omega | assumption) | fail)) | (rw [so_bd]; try dsimp only))
        exact ih (y + 1) (by omega) (by omega) (by omega)
  exact lp N 0 (by decide) (by decide) (by omega)
theorem rundo_ok (hN : 40000 ≤ N) {st kp : Int → Int} {km : Int} (hk : 1 ≤ km ∧ km ≤ 10) : ∃ st', m_X13_undo N kp km st = some (km - 1, km - 1, st') ∧ ∀ k, 0 ≤ k → k < 3206 → st' k = blk kp (km - 1) k := by
  have lp : ∀ (f : Nat) (w : Int → Int) (y : Int), 0 ≤ y → y ≤ 3206 → (∀ k, 0 ≤ k → k < y → w k = blk kp (km - 1) k) → (3206 - y).toNat < f → ∃ w', m_X13_undo_b21 N kp (km - 1) f w y = some (km - 1, km - 1, w') ∧ ∀ k, 0 ≤ k → k < 3206 → w' k = blk kp (km - 1) k := by
    intro f
    induction f with
    | zero => intro w y _ _ _ h; omega
    | succ f ih =>
      intro w y h0 h1 hw hf
      rw [m_X13_undo_b21]
      by_cases c : 3206 ≤ y
      · refine ⟨w, ?_, fun k k0 k1 => hw k k0 (by omega)⟩
        repeat (first | (with_reducible refine gd_ok ?_ ?_; focus (first | omega | assumption | ((repeat' refine And.intro ?_ ?_) <;> first | omega | assumption) | fail)) | (with_reducible refine ip_ok ?_ ?_; focus (first | omega | assumption | ((repeat' refine And.intro ?_ ?_) <;> first | omega | assumption) | fail)) | (with_reducible refine in_ok ?_ ?_; focus (first | omega | assumption | ((repeat' refine And.intro ?_ ?_) <;> first | omega | assumption) | fail)) | (rw [so_bd]; try dsimp only))
        all_goals rfl
      · obtain ⟨w', q1, q2⟩ := ih (uP w y (kp (3206 * (km - 1) + y))) (y + 1) (by omega) (by omega) (fun k k0 k1 => by
          by_cases e : k = y
          · rw [e, uP_s]; rfl
          · rw [uP_o _ _ e]; exact hw k k0 (by omega)) (by omega)
        refine ⟨w', ?_, q2⟩
        repeat (first | (with_reducible refine gd_ok ?_ ?_; focus (first | omega | assumption | ((repeat' refine And.intro ?_ ?_) <;> first | omega | assumption) | fail)) | (with_reducible refine ip_ok ?_ ?_; focus (first | omega | assumption | ((repeat' refine And.intro ?_ ?_) <;> first | omega | assumption) | fail)) | (with_reducible refine in_ok ?_ ?_; focus (first | omega | assumption | ((repeat' refine And.intro ?_ ?_) <;> first | omega | assumption) | fail)) | (rw [so_bd]; try dsimp only))
        exact q1
  obtain ⟨w', q1, q2⟩ := lp N st 0 (by decide) (by decide) (fun k k0 k1 => by omega) (by omega)
  refine ⟨w', ?_, q2⟩
  rw [m_X13_undo]
  repeat (first | (with_reducible refine gd_ok ?_ ?_; focus (first | omega | assumption | ((repeat' refine And.intro ?_ ?_) <;> first | omega | assumption) | fail)) | (with_reducible refine ip_ok ?_ ?_; focus (first | omega | assumption | ((repeat' refine And.intro ?_ ?_) <;> first | omega | assumption) | fail)) | (with_reducible refine in_ok ?_ ?_; focus (first | omega | assumption | ((repeat' refine And.intro ?_ ?_) <;> first | omega | assumption) | fail)) | (rw [so_bd]; try dsimp only))
  exact q1
/-- the class's acts behind one more -/
def AcR (n n' : Int) (k1 k2 : Int → Int) (v : Int) : Prop := (n < 10 → n' = n + 1 ∧ (∀ j, 0 ≤ j → j < n → k2 j = k1 j) ∧ k2 n = v) ∧ (n = 10 → n' = 10 ∧ (∀ j, 0 ≤ j → j < 9 → k2 j = k1 (j + 1)) ∧ k2 9 = v)
theorem acted_ok {sd n v1 v2 v3 v4 : Int} {k1 k2 k3 k4 : Int → Int} (hn : 0 ≤ n ∧ n ≤ 10) : ∃ n' q1 q2 q3 q4, m_X12_acted N sd n k1 k2 k3 k4 v1 v2 v3 v4 = some (0, n', q1, q2, q3, q4) ∧ AcR n n' k1 q1 v1 ∧ AcR n n' k2 q2 v2 ∧ AcR n n' k3 q3 v3 ∧ AcR n n' k4 q4 v4 := by
  by_cases c : n < 10
  · have e : m_X0_append N n k1 k2 k3 k4 v1 v2 v3 v4 = some (n + 1, uP k1 n v1, uP k2 n v2, uP k3 n v3, uP k4 n v4) := by
      rw [m_X0_append]
      repeat (first | (with_reducible refine gd_ok ?_ ?_; focus (first | omega | assumption | ((repeat' refine And.intro ?_ ?_) <;> first | omega | assumption) | fail)) | (with_reducible refine ip_ok ?_ ?_; focus (first | omega | assumption | ((repeat' refine And.intro ?_ ?_) <;> first | omega | assumption) | fail)) | (with_reducible refine in_ok ?_ ?_; focus (first | omega | assumption | ((repeat' refine And.intro ?_ ?_) <;> first | omega | assumption) | fail)) | (rw [so_bd]; try dsimp only))
      rw [m_X0_append_b13]
      repeat (first | (with_reducible refine gd_ok ?_ ?_; focus (first | omega | assumption | ((repeat' refine And.intro ?_ ?_) <;> first | omega | assumption) | fail)) | (with_reducible refine ip_ok ?_ ?_; focus (first | omega | assumption | ((repeat' refine And.intro ?_ ?_) <;> first | omega | assumption) | fail)) | (with_reducible refine in_ok ?_ ?_; focus (first | omega | assumption | ((repeat' refine And.intro ?_ ?_) <;> first | omega | assumption) | fail)) | (rw [so_bd]; try dsimp only))
      all_goals rfl
    have r : ∀ (k : Int → Int) (v : Int), AcR n (n + 1) k (uP k n v) v := fun k v => ⟨fun _ => ⟨rfl, fun j j0 j1 => uP_o _ _ (by omega), uP_s _ _ _⟩, fun h => by omega⟩
    refine ⟨n + 1, _, _, _, _, ?_, r k1 v1, r k2 v2, r k3 v3, r k4 v4⟩
    rw [m_X12_acted]
    repeat (first | (with_reducible refine gd_ok ?_ ?_; focus (first | omega | assumption | ((repeat' refine And.intro ?_ ?_) <;> first | omega | assumption) | fail)) | (with_reducible refine ip_ok ?_ ?_; focus (first | omega | assumption | ((repeat' refine And.intro ?_ ?_) <;> first | omega | assumption) | fail)) | (with_reducible refine in_ok ?_ ?_; focus (first | omega | assumption | ((repeat' refine And.intro ?_ ?_) <;> first | omega | assumption) | fail)) | (rw [e, so_bd]; try dsimp only) | (rw [so_bd]; try dsimp only))
    all_goals rfl
  · have en : n = 10 := by omega
    subst en
    have e1 : m_X0_dropOldest N 10 k1 k2 k3 k4 = some (9, cP k1 k1 1 0 9, cP k2 k2 1 0 9, cP k3 k3 1 0 9, cP k4 k4 1 0 9) := by
      rw [m_X0_dropOldest]
      repeat (first | (with_reducible refine gd_ok ?_ ?_; focus (first | omega | assumption | ((repeat' refine And.intro ?_ ?_) <;> first | omega | assumption) | fail)) | (with_reducible refine ip_ok ?_ ?_; focus (first | omega | assumption | ((repeat' refine And.intro ?_ ?_) <;> first | omega | assumption) | fail)) | (with_reducible refine in_ok ?_ ?_; focus (first | omega | assumption | ((repeat' refine And.intro ?_ ?_) <;> first | omega | assumption) | fail)) | (rw [so_bd]; try dsimp only))
      all_goals rfl
    have e : m_X0_append N 10 k1 k2 k3 k4 v1 v2 v3 v4 = some (9 + 1, uP (cP k1 k1 1 0 9) 9 v1, uP (cP k2 k2 1 0 9) 9 v2, uP (cP k3 k3 1 0 9) 9 v3, uP (cP k4 k4 1 0 9) 9 v4) := by
      rw [m_X0_append]
      repeat (first | (with_reducible refine gd_ok ?_ ?_; focus (first | omega | assumption | ((repeat' refine And.intro ?_ ?_) <;> first | omega | assumption) | fail)) | (with_reducible refine ip_ok ?_ ?_; focus (first | omega | assumption | ((repeat' refine And.intro ?_ ?_) <;> first | omega | assumption) | fail)) | (with_reducible refine in_ok ?_ ?_; focus (first | omega | assumption | ((repeat' refine And.intro ?_ ?_) <;> first | omega | assumption) | fail)) | (rw [e1, so_bd]; try dsimp only) | (rw [so_bd]; try dsimp only))
      rw [m_X0_append_b13]
      repeat (first | (with_reducible refine gd_ok ?_ ?_; focus (first | omega | assumption | ((repeat' refine And.intro ?_ ?_) <;> first | omega | assumption) | fail)) | (with_reducible refine ip_ok ?_ ?_; focus (first | omega | assumption | ((repeat' refine And.intro ?_ ?_) <;> first | omega | assumption) | fail)) | (with_reducible refine in_ok ?_ ?_; focus (first | omega | assumption | ((repeat' refine And.intro ?_ ?_) <;> first | omega | assumption) | fail)) | (rw [so_bd]; try dsimp only))
      all_goals rfl
    have r : ∀ (k : Int → Int) (v : Int), AcR 10 (9 + 1) k (uP (cP k k 1 0 9) 9 v) v := fun k v => ⟨fun h => by omega, fun _ => ⟨rfl, fun j j0 j1 => by
      rw [uP_o _ _ (by omega), cP_i ⟨by omega, by omega⟩, show 1 + (j - 0) = j + 1 by omega], uP_s _ _ _⟩⟩
    refine ⟨9 + 1, _, _, _, _, ?_, r k1 v1, r k2 v2, r k3 v3, r k4 v4⟩
    rw [m_X12_acted]
    repeat (first | (with_reducible refine gd_ok ?_ ?_; focus (first | omega | assumption | ((repeat' refine And.intro ?_ ?_) <;> first | omega | assumption) | fail)) | (with_reducible refine ip_ok ?_ ?_; focus (first | omega | assumption | ((repeat' refine And.intro ?_ ?_) <;> first | omega | assumption) | fail)) | (with_reducible refine in_ok ?_ ?_; focus (first | omega | assumption | ((repeat' refine And.intro ?_ ?_) <;> first | omega | assumption) | fail)) | (rw [e, so_bd]; try dsimp only) | (rw [so_bd]; try dsimp only))
    all_goals rfl
end
