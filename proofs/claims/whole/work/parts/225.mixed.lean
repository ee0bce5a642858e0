/-! MIXED -/
section
variable {G B : Int → Int}
theorem pvN_all : ∀ (F : Nat) (st : Int → Int) (m : Int), m ≤ 1000 → m.toNat ≤ F → nv G B (pvN G B F st m).1 (pvN G B F st m).2 := by
  intro F
  induction F with
  | zero =>
    intro st m h1 h2
    have hv : nv G B st m := fun j j0 j1 => by omega
    rw [pvN_nv 0 hv h1]
    exact hv
  | succ F ih =>
    intro st m h1 h2
    rcases nv_or G B st m with hv | ⟨k, hk⟩
    · rw [pvN_nv (F + 1) hv h1]
      exact hv
    · rw [pvN_fv F hk h1]
      have := hk.1
      exact ih (dl st k) (m - 1) (by omega) (by omega)
end
section
variable {N : Nat} {g b : Int → Int}
theorem pst_nv (ok : okP g b) : nv (cG g b) (cB g b) (pst g b) (pmm g b) := by
  have ok2 := ok.2.1
  exact pvN_all 1000 _ _ (by omega) (by omega)
theorem pst_pos (ok : okP g b) {k : Int} (h0 : 1 ≤ k) (hk : k < pmm g b) : 0 < bG (cG g b) (pst g b) k := by
  have hb := pst_Bd ok
  have f := pst_nv ok (k - 1) (by omega) (by omega)
  have c1 := hb.b ok (k := k - 1) (by omega) (by omega)
  have c2 := hb.b ok (k := k) (by omega) hk
  unfold fl at f
  rw [show k - 1 + 1 = k by omega] at f
  by_cases z : bG (cG g b) (pst g b) k = 0
  · rw [z, Int.zero_add] at f
    have e : bG (cB g b) (pst g b) k * (bG (cG g b) (pst g b) (k - 1) + bG (cB g b) (pst g b) (k - 1)) = bG (cB g b) (pst g b) k * bG (cG g b) (pst g b) (k - 1) + bG (cB g b) (pst g b) (k - 1) * bG (cB g b) (pst g b) k := by
      rw [Int.mul_add, Int.mul_comm (bG (cB g b) (pst g b) k) (bG (cB g b) (pst g b) (k - 1))]
    have p := Int.mul_nonneg c2.2.1 c1.1
    rw [e] at f
    omega
  · omega
def mxX (g b : Int → Int) (k : Int) : Int := cG g b (cn g b) - cG g b (pst g b (k + 1))
def mxY (g b : Int → Int) (k : Int) : Int := cB g b (cn g b) - cB g b (pst g b (k + 1))
def mxN (g b : Int → Int) (x k : Int) : Int := if bG (cG g b) (pst g b) k = 0 then mxY g b k else mxY g b k * bG (cG g b) (pst g b) k + bG (cB g b) (pst g b) k * (x - mxX g b k)
def mxB (g b : Int → Int) (k : Int) : Int := if bG (cG g b) (pst g b) k = 0 then 1 else bG (cG g b) (pst g b) k
def mxC (g b : Int → Int) (x k : Int) : Prop := mxX g b k ≤ x ∧ x ≤ mxX g b k + bG (cG g b) (pst g b) k
theorem mx_bd (ok : okP g b) {k : Int} (k0 : 0 ≤ k) (k1 : k < pmm g b) : (0 ≤ mxX g b k ∧ mxX g b k ≤ 11880) ∧ (0 ≤ mxY g b k ∧ mxY g b k ≤ 11880) ∧ (0 ≤ bG (cG g b) (pst g b) k ∧ bG (cG g b) (pst g b) k ≤ 11880) ∧ (0 ≤ bG (cB g b) (pst g b) k ∧ bG (cB g b) (pst g b) k ≤ 11880) ∧ mxX g b k + bG (cG g b) (pst g b) k ≤ 11880 := by
  have hb := pst_Bd ok
  have i := hb.in_ (k := k + 1) (by omega) (by omega)
  have i0 := hb.in_ (k := k) k0 (by omega)
  have c := hb.b ok k0 k1
  have a1 := cG_b ok i.1 i.2
  have a0 := cG_b ok i0.1 i0.2
  have a2 := cG_b ok (cn_0 g b) (Int.le_refl _)
  have m1 := cG_m ok i.1 i.2 (Int.le_refl _)
  have m2 := cB_m ok i.1 i.2 (Int.le_refl _)
  have e : bG (cG g b) (pst g b) k = cG g b (pst g b (k + 1)) - cG g b (pst g b k) := rfl
  unfold mxX mxY
  omega
theorem mx_s {k : Int} : mxX g b (k - 1) = mxX g b k + bG (cG g b) (pst g b) k ∧ mxY g b (k - 1) = mxY g b k + bG (cB g b) (pst g b) k := by
  unfold mxX mxY bG
  rw [show k - 1 + 1 = k by omega]
  omega
theorem mx_nb (ok : okP g b) {x k : Int} (k0 : 0 ≤ k) (k1 : k < pmm g b) (hc : mxC g b x k) : (0 ≤ mxN g b x k ∧ mxN g b x k ≤ 1000000000) ∧ 0 < mxB g b k ∧ mxB g b k ≤ 11880 := by
  have d := mx_bd ok k0 k1
  have p1 := mul_bd (a := mxY g b k) (b := bG (cG g b) (pst g b) k) (A := 11880) (B := 11880) d.2.1 d.2.2.1
  have p2 := mul_bd (a := bG (cB g b) (pst g b) k) (b := x - mxX g b k) (A := 11880) (B := 11880) d.2.2.2.1 (by unfold mxC at hc; omega)
  unfold mxN mxB
  by_cases z : bG (cG g b) (pst g b) k = 0
  · rw [if_pos z, if_pos z]; omega
  · rw [if_neg z, if_neg z]; omega
theorem mix_lp (hN : 40000 ≤ N) (ok : okP g b) {stt sc go ba st' : Int → Int} (hr : RwA g b sc go ba) (hs : SA st' (pst g b) (pmm g b)) {x w a k1 : Int} (hx : 0 ≤ x ∧ x ≤ 11880) (hw : 0 ≤ w ∧ w ≤ 1) (hk : 0 ≤ k1 ∧ k1 < pmm g b) (hc : mxC g b x k1) (hf : ∀ k, 0 ≤ k → k < k1 → ¬ mxC g b x k) (hq : ∀ k, k1 < k → k < pmm g b → mxC g b x k → mxN g b x k1 * mxB g b k ≤ mxN g b x k * mxB g b k1) (ht : m_X13_told N (mxN g b x k1) (mxB g b k1) w = some a) : ∀ (f : Nat) (y3 y5 y7 : Int), 0 ≤ y7 → y7 ≤ pmm g b → (y7 ≤ k1 → y3 = 0 ∧ y5 = 0) → (k1 < y7 → y3 = mxN g b x k1 ∧ y5 = mxB g b k1) → (pmm g b - y7).toNat < f → Rt (m_X13_mixed_b56 N stt x w (cn g b) (pmm g b) sc go ba st' f y3 y5 y7) a := by
  have ok2 := ok.2.1
  have hb := pst_Bd ok
  have hm := hb.1
  have n1 := mx_nb ok hk.1 hk.2 hc
  intro f
  induction f with
  | zero => intro y3 y5 y7 _ _ _ _ h; omega
  | succ f ih =>
    intro y3 y5 y7 h0 h1 e1 e2 hf'
    rw [m_X13_mixed_b56]
    by_cases c : pmm g b ≤ y7
    · obtain ⟨r3, r5⟩ := e2 (by omega)
      rw [← r3, ← r5] at ht
      repeat (first | (with_reducible refine Rt.gd ?_ ?_; focus (first | omega | assumption | ((repeat' refine And.intro ?_ ?_) <;> first | omega | assumption) | fail)) | (with_reducible refine Rt.ip ?_ ?_; focus (first | omega | assumption | ((repeat' refine And.intro ?_ ?_) <;> first | omega | assumption) | fail)) | (with_reducible refine Rt.in_ ?_ ?_; focus (first | omega | assumption | ((repeat' refine And.intro ?_ ?_) <;> first | omega | assumption) | fail)) | (rw [ht, so_bd]; try dsimp only) | (rw [so_bd]; try dsimp only))
      all_goals exact Rt.so
    · have d := mx_bd ok h0 (by omega)
      have i := hb.in_ (k := y7 + 1) (by omega) (by omega)
      have es := hs (y7 + 1) (by omega) (by omega)
      have u1 := of0 hN ok hr (x1 := pst g b (y7 + 1)) (x2 := cn g b) ⟨i.1, i.2⟩ (Int.le_refl _)
      have u2 := of1 hN ok hr (x1 := pst g b (y7 + 1)) (x2 := cn g b) ⟨i.1, i.2⟩ (Int.le_refl _)
      have u1 : m_X13_of N go ba (pst g b (y7 + 1)) (cn g b) 0 = some (mxX g b y7) := u1
      have u2 : m_X13_of N go ba (pst g b (y7 + 1)) (cn g b) 1 = some (mxY g b y7) := u2
      have u3 := ofBand0 (N := N) hN ok hr hb hs h0 (show y7 < pmm g b by omega)
      have u4 := ofBand1 (N := N) hN ok hr hb hs h0 (show y7 < pmm g b by omega)
      by_cases q : mxC g b x y7
      · have nb := mx_nb ok h0 (show y7 < pmm g b by omega) q
        have q' := q
        unfold mxC at q'
        by_cases z : bG (cG g b) (pst g b) y7 = 0
        · have eN : mxN g b x y7 = mxY g b y7 := if_pos z
          have eB : mxB g b y7 = 1 := if_pos z
          rcases (by omega : y7 < k1 ∨ y7 = k1 ∨ k1 < y7) with t | t | t
          · exact absurd q (hf y7 h0 t)
          · obtain ⟨r3, r5⟩ := e1 (by omega)
            subst t
            repeat (first | (with_reducible refine Rt.gd ?_ ?_; focus (first | omega | assumption | ((repeat' refine And.intro ?_ ?_) <;> first | omega | assumption) | fail)) | (with_reducible refine Rt.ip ?_ ?_; focus (first | omega | assumption | ((repeat' refine And.intro ?_ ?_) <;> first | omega | assumption) | fail)) | (with_reducible refine Rt.in_ ?_ ?_; focus (first | omega | assumption | ((repeat' refine And.intro ?_ ?_) <;> first | omega | assumption) | fail)) | rw [es] | (rw [u1, so_bd]; try dsimp only) | (rw [u2, so_bd]; try dsimp only) | (rw [u3, so_bd]; try dsimp only) | (rw [u4, so_bd]; try dsimp only) | (rw [so_bd]; try dsimp only))
            rw [m_X13_mixed_b171]
            repeat (first | (with_reducible refine Rt.gd ?_ ?_; focus (first | omega | assumption | ((repeat' refine And.intro ?_ ?_) <;> first | omega | assumption) | fail)) | (with_reducible refine Rt.ip ?_ ?_; focus (first | omega | assumption | ((repeat' refine And.intro ?_ ?_) <;> first | omega | assumption) | fail)) | (with_reducible refine Rt.in_ ?_ ?_; focus (first | omega | assumption | ((repeat' refine And.intro ?_ ?_) <;> first | omega | assumption) | fail)) | (rw [so_bd]; try dsimp only))
            rw [m_X13_mixed_b186]
            repeat (first | (with_reducible refine Rt.gd ?_ ?_; focus (first | omega | assumption | ((repeat' refine And.intro ?_ ?_) <;> first | omega | assumption) | fail)) | (with_reducible refine Rt.ip ?_ ?_; focus (first | omega | assumption | ((repeat' refine And.intro ?_ ?_) <;> first | omega | assumption) | fail)) | (with_reducible refine Rt.in_ ?_ ?_; focus (first | omega | assumption | ((repeat' refine And.intro ?_ ?_) <;> first | omega | assumption) | fail)) | (rw [so_bd]; try dsimp only))
            rw [m_X13_mixed_b208, m_X13_mixed_b213]
            repeat (first | (with_reducible refine Rt.gd ?_ ?_; focus (first | omega | assumption | ((repeat' refine And.intro ?_ ?_) <;> first | omega | assumption) | fail)) | (with_reducible refine Rt.ip ?_ ?_; focus (first | omega | assumption | ((repeat' refine And.intro ?_ ?_) <;> first | omega | assumption) | fail)) | (with_reducible refine Rt.in_ ?_ ?_; focus (first | omega | assumption | ((repeat' refine And.intro ?_ ?_) <;> first | omega | assumption) | fail)) | (rw [so_bd]; try dsimp only))
            rw [m_X13_mixed_b226]
            repeat (first | (with_reducible refine Rt.gd ?_ ?_; focus (first | omega | assumption | ((repeat' refine And.intro ?_ ?_) <;> first | omega | assumption) | fail)) | (with_reducible refine Rt.ip ?_ ?_; focus (first | omega | assumption | ((repeat' refine And.intro ?_ ?_) <;> first | omega | assumption) | fail)) | (with_reducible refine Rt.in_ ?_ ?_; focus (first | omega | assumption | ((repeat' refine And.intro ?_ ?_) <;> first | omega | assumption) | fail)) | (rw [so_bd]; try dsimp only))
            exact ih _ _ _ (by omega) (by omega) (by omega) (fun _ => ⟨eN.symm, eB.symm⟩) (by omega)
          · obtain ⟨r3, r5⟩ := e2 t
            have hh := hq y7 t (by omega) q
            rw [eN, eB, Int.mul_one] at hh
            have p1 := mul_bd (a := mxY g b y7) (b := mxB g b k1) (A := 11880) (B := 11880) d.2.1 (by omega)
            subst r3; subst r5
            repeat (first | (with_reducible refine Rt.gd ?_ ?_; focus (first | omega | assumption | ((repeat' refine And.intro ?_ ?_) <;> first | omega | assumption) | fail)) | (with_reducible refine Rt.ip ?_ ?_; focus (first | omega | assumption | ((repeat' refine And.intro ?_ ?_) <;> first | omega | assumption) | fail)) | (with_reducible refine Rt.in_ ?_ ?_; focus (first | omega | assumption | ((repeat' refine And.intro ?_ ?_) <;> first | omega | assumption) | fail)) | rw [es] | (rw [u1, so_bd]; try dsimp only) | (rw [u2, so_bd]; try dsimp only) | (rw [u3, so_bd]; try dsimp only) | (rw [u4, so_bd]; try dsimp only) | (rw [so_bd]; try dsimp only))
            rw [m_X13_mixed_b171]
            repeat (first | (with_reducible refine Rt.gd ?_ ?_; focus (first | omega | assumption | ((repeat' refine And.intro ?_ ?_) <;> first | omega | assumption) | fail)) | (with_reducible refine Rt.ip ?_ ?_; focus (first | omega | assumption | ((repeat' refine And.intro ?_ ?_) <;> first | omega | assumption) | fail)) | (with_reducible refine Rt.in_ ?_ ?_; focus (first | omega | assumption | ((repeat' refine And.intro ?_ ?_) <;> first | omega | assumption) | fail)) | (rw [so_bd]; try dsimp only))
            rw [m_X13_mixed_b186, Int.mul_one]
            repeat (first | (with_reducible refine Rt.gd ?_ ?_; focus (first | omega | assumption | ((repeat' refine And.intro ?_ ?_) <;> first | omega | assumption) | fail)) | (with_reducible refine Rt.ip ?_ ?_; focus (first | omega | assumption | ((repeat' refine And.intro ?_ ?_) <;> first | omega | assumption) | fail)) | (with_reducible refine Rt.in_ ?_ ?_; focus (first | omega | assumption | ((repeat' refine And.intro ?_ ?_) <;> first | omega | assumption) | fail)) | (rw [so_bd]; try dsimp only))
            rw [m_X13_mixed_b213]
            repeat (first | (with_reducible refine Rt.gd ?_ ?_; focus (first | omega | assumption | ((repeat' refine And.intro ?_ ?_) <;> first | omega | assumption) | fail)) | (with_reducible refine Rt.ip ?_ ?_; focus (first | omega | assumption | ((repeat' refine And.intro ?_ ?_) <;> first | omega | assumption) | fail)) | (with_reducible refine Rt.in_ ?_ ?_; focus (first | omega | assumption | ((repeat' refine And.intro ?_ ?_) <;> first | omega | assumption) | fail)) | (rw [so_bd]; try dsimp only))
            rw [m_X13_mixed_b226]
            repeat (first | (with_reducible refine Rt.gd ?_ ?_; focus (first | omega | assumption | ((repeat' refine And.intro ?_ ?_) <;> first | omega | assumption) | fail)) | (with_reducible refine Rt.ip ?_ ?_; focus (first | omega | assumption | ((repeat' refine And.intro ?_ ?_) <;> first | omega | assumption) | fail)) | (with_reducible refine Rt.in_ ?_ ?_; focus (first | omega | assumption | ((repeat' refine And.intro ?_ ?_) <;> first | omega | assumption) | fail)) | (rw [so_bd]; try dsimp only))
            exact ih _ _ _ (by omega) (by omega) (by omega) (fun _ => ⟨rfl, rfl⟩) (by omega)
        · have eN : mxN g b x y7 = mxY g b y7 * bG (cG g b) (pst g b) y7 + bG (cB g b) (pst g b) y7 * (x - mxX g b y7) := if_neg z
          have eB : mxB g b y7 = bG (cG g b) (pst g b) y7 := if_neg z
          rcases (by omega : y7 < k1 ∨ y7 = k1 ∨ k1 < y7) with t | t | t
          · exact absurd q (hf y7 h0 t)
          · obtain ⟨r3, r5⟩ := e1 (by omega)
            subst t
            repeat (first | (with_reducible refine Rt.gd ?_ ?_; focus (first | omega | assumption | ((repeat' refine And.intro ?_ ?_) <;> first | omega | assumption) | fail)) | (with_reducible refine Rt.ip ?_ ?_; focus (first | omega | assumption | ((repeat' refine And.intro ?_ ?_) <;> first | omega | assumption) | fail)) | (with_reducible refine Rt.in_ ?_ ?_; focus (first | omega | assumption | ((repeat' refine And.intro ?_ ?_) <;> first | omega | assumption) | fail)) | rw [es] | (rw [u1, so_bd]; try dsimp only) | (rw [u2, so_bd]; try dsimp only) | (rw [u3, so_bd]; try dsimp only) | (rw [u4, so_bd]; try dsimp only) | (rw [so_bd]; try dsimp only))
            rw [m_X13_mixed_b171]
            repeat (first | (with_reducible refine Rt.gd ?_ ?_; focus (first | omega | assumption | ((repeat' refine And.intro ?_ ?_) <;> first | omega | assumption) | fail)) | (with_reducible refine Rt.ip ?_ ?_; focus (first | omega | assumption | ((repeat' refine And.intro ?_ ?_) <;> first | omega | assumption) | fail)) | (with_reducible refine Rt.in_ ?_ ?_; focus (first | omega | assumption | ((repeat' refine And.intro ?_ ?_) <;> first | omega | assumption) | fail)) | (rw [so_bd]; try dsimp only))
            rw [m_X13_mixed_b186]
            repeat (first | (with_reducible refine Rt.gd ?_ ?_; focus (first | omega | assumption | ((repeat' refine And.intro ?_ ?_) <;> first | omega | assumption) | fail)) | (with_reducible refine Rt.ip ?_ ?_; focus (first | omega | assumption | ((repeat' refine And.intro ?_ ?_) <;> first | omega | assumption) | fail)) | (with_reducible refine Rt.in_ ?_ ?_; focus (first | omega | assumption | ((repeat' refine And.intro ?_ ?_) <;> first | omega | assumption) | fail)) | (rw [so_bd]; try dsimp only))
            rw [m_X13_mixed_b208, m_X13_mixed_b213]
            repeat (first | (with_reducible refine Rt.gd ?_ ?_; focus (first | omega | assumption | ((repeat' refine And.intro ?_ ?_) <;> first | omega | assumption) | fail)) | (with_reducible refine Rt.ip ?_ ?_; focus (first | omega | assumption | ((repeat' refine And.intro ?_ ?_) <;> first | omega | assumption) | fail)) | (with_reducible refine Rt.in_ ?_ ?_; focus (first | omega | assumption | ((repeat' refine And.intro ?_ ?_) <;> first | omega | assumption) | fail)) | (rw [so_bd]; try dsimp only))
            rw [m_X13_mixed_b226]
            repeat (first | (with_reducible refine Rt.gd ?_ ?_; focus (first | omega | assumption | ((repeat' refine And.intro ?_ ?_) <;> first | omega | assumption) | fail)) | (with_reducible refine Rt.ip ?_ ?_; focus (first | omega | assumption | ((repeat' refine And.intro ?_ ?_) <;> first | omega | assumption) | fail)) | (with_reducible refine Rt.in_ ?_ ?_; focus (first | omega | assumption | ((repeat' refine And.intro ?_ ?_) <;> first | omega | assumption) | fail)) | (rw [so_bd]; try dsimp only))
            exact ih _ _ _ (by omega) (by omega) (by omega) (fun _ => ⟨eN.symm, eB.symm⟩) (by omega)
          · obtain ⟨r3, r5⟩ := e2 t
            have hh := hq y7 t (by omega) q
            rw [eN, eB] at hh nb
            have p1 := mul_bd (a := mxY g b y7 * bG (cG g b) (pst g b) y7 + bG (cB g b) (pst g b) y7 * (x - mxX g b y7)) (b := mxB g b k1) (A := 1000000000) (B := 11880) nb.1 (by omega)
            have p2 := mul_bd (a := mxN g b x k1) (b := bG (cG g b) (pst g b) y7) (A := 1000000000) (B := 11880) n1.1 (by omega)
            subst r3; subst r5
            repeat (first | (with_reducible refine Rt.gd ?_ ?_; focus (first | omega | assumption | ((repeat' refine And.intro ?_ ?_) <;> first | omega | assumption) | fail)) | (with_reducible refine Rt.ip ?_ ?_; focus (first | omega | assumption | ((repeat' refine And.intro ?_ ?_) <;> first | omega | assumption) | fail)) | (with_reducible refine Rt.in_ ?_ ?_; focus (first | omega | assumption | ((repeat' refine And.intro ?_ ?_) <;> first | omega | assumption) | fail)) | rw [es] | (rw [u1, so_bd]; try dsimp only) | (rw [u2, so_bd]; try dsimp only) | (rw [u3, so_bd]; try dsimp only) | (rw [u4, so_bd]; try dsimp only) | (rw [so_bd]; try dsimp only))
            rw [m_X13_mixed_b171]
            repeat (first | (with_reducible refine Rt.gd ?_ ?_; focus (first | omega | assumption | ((repeat' refine And.intro ?_ ?_) <;> first | omega | assumption) | fail)) | (with_reducible refine Rt.ip ?_ ?_; focus (first | omega | assumption | ((repeat' refine And.intro ?_ ?_) <;> first | omega | assumption) | fail)) | (with_reducible refine Rt.in_ ?_ ?_; focus (first | omega | assumption | ((repeat' refine And.intro ?_ ?_) <;> first | omega | assumption) | fail)) | (rw [so_bd]; try dsimp only))
            rw [m_X13_mixed_b186]
            repeat (first | (with_reducible refine Rt.gd ?_ ?_; focus (first | omega | assumption | ((repeat' refine And.intro ?_ ?_) <;> first | omega | assumption) | fail)) | (with_reducible refine Rt.ip ?_ ?_; focus (first | omega | assumption | ((repeat' refine And.intro ?_ ?_) <;> first | omega | assumption) | fail)) | (with_reducible refine Rt.in_ ?_ ?_; focus (first | omega | assumption | ((repeat' refine And.intro ?_ ?_) <;> first | omega | assumption) | fail)) | (rw [so_bd]; try dsimp only))
            rw [m_X13_mixed_b213]
            repeat (first | (with_reducible refine Rt.gd ?_ ?_; focus (first | omega | assumption | ((repeat' refine And.intro ?_ ?_) <;> first | omega | assumption) | fail)) | (with_reducible refine Rt.ip ?_ ?_; focus (first | omega | assumption | ((repeat' refine And.intro ?_ ?_) <;> first | omega | assumption) | fail)) | (with_reducible refine Rt.in_ ?_ ?_; focus (first | omega | assumption | ((repeat' refine And.intro ?_ ?_) <;> first | omega | assumption) | fail)) | (rw [so_bd]; try dsimp only))
            rw [m_X13_mixed_b226]
            repeat (first | (with_reducible refine Rt.gd ?_ ?_; focus (first | omega | assumption | ((repeat' refine And.intro ?_ ?_) <;> first | omega | assumption) | fail)) | (with_reducible refine Rt.ip ?_ ?_; focus (first | omega | assumption | ((repeat' refine And.intro ?_ ?_) <;> first | omega | assumption) | fail)) | (with_reducible refine Rt.in_ ?_ ?_; focus (first | omega | assumption | ((repeat' refine And.intro ?_ ?_) <;> first | omega | assumption) | fail)) | (rw [so_bd]; try dsimp only))
            exact ih _ _ _ (by omega) (by omega) (by omega) (fun _ => ⟨rfl, rfl⟩) (by omega)
      · have q' := q
        unfold mxC at q'
        have t : y7 ≠ k1 := fun e => q (by rw [e]; exact hc)
        by_cases z : x < mxX g b y7
        · repeat (first | (with_reducible refine Rt.gd ?_ ?_; focus (first | omega | assumption | ((repeat' refine And.intro ?_ ?_) <;> first | omega | assumption) | fail)) | (with_reducible refine Rt.ip ?_ ?_; focus (first | omega | assumption | ((repeat' refine And.intro ?_ ?_) <;> first | omega | assumption) | fail)) | (with_reducible refine Rt.in_ ?_ ?_; focus (first | omega | assumption | ((repeat' refine And.intro ?_ ?_) <;> first | omega | assumption) | fail)) | rw [es] | (rw [u1, so_bd]; try dsimp only) | (rw [u2, so_bd]; try dsimp only) | (rw [u3, so_bd]; try dsimp only) | (rw [u4, so_bd]; try dsimp only) | (rw [so_bd]; try dsimp only))
          exact ih _ _ _ (by omega) (by omega) (fun h => e1 (by omega)) (fun h => e2 (by omega)) (by omega)
        · repeat (first | (with_reducible refine Rt.gd ?_ ?_; focus (first | omega | assumption | ((repeat' refine And.intro ?_ ?_) <;> first | omega | assumption) | fail)) | (with_reducible refine Rt.ip ?_ ?_; focus (first | omega | assumption | ((repeat' refine And.intro ?_ ?_) <;> first | omega | assumption) | fail)) | (with_reducible refine Rt.in_ ?_ ?_; focus (first | omega | assumption | ((repeat' refine And.intro ?_ ?_) <;> first | omega | assumption) | fail)) | rw [es] | (rw [u1, so_bd]; try dsimp only) | (rw [u2, so_bd]; try dsimp only) | (rw [u3, so_bd]; try dsimp only) | (rw [u4, so_bd]; try dsimp only) | (rw [so_bd]; try dsimp only))
          exact ih _ _ _ (by omega) (by omega) (fun h => e1 (by omega)) (fun h => e2 (by omega)) (by omega)
end
