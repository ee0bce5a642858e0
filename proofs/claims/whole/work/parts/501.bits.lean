/-! the bits of a double: counted by halves on the one side, taken raw on the other -/
theorem nn_of {x : UInt64} (h : x.toNat ≤ 9218868437227405312) : FP.Core.val64 x ≠ .nan := (FP.Core.ne_nan x).mpr (by omega)
theorem dcV_key {x y : UInt64} {op : CmpOp} (hx : x.toNat ≤ 9218868437227405312) (hy : y.toNat ≤ 9218868437227405312) : dcV x y op = if x.toNat < y.toNat then -1 else if x.toNat = y.toNat then 0 else 1 := by
  have hm := FP.Core.mono_bits (nn_of hx) (nn_of hy) (by omega) (by omega)
  unfold dcV
  show (Op.cmpValue (FP.Core.dcmp x y) op).toInt = _
  by_cases c : x.toNat < y.toNat
  · rw [hm.1.mpr c, if_pos c]; rfl
  · by_cases d : x.toNat = y.toNat
    · rw [hm.2.1.mpr d, if_neg c, if_pos d]; rfl
    · rw [hm.2.2.mpr (by omega), if_neg c, if_neg d]; rfl
theorem dB_nat {x : UInt64} (h : x.toNat < 9223372036854775808) : dB x = (x.toNat : Int) := by
  show x.toInt64.toBitVec.toInt = _
  have e : x.toInt64.toBitVec = x.toBitVec := rfl
  rw [e, BitVec.toInt_eq_toNat_of_lt]
  · rfl
  · have : x.toBitVec.toNat = x.toNat := rfl
    omega
theorem dk1 : (FP.dconst1 : UInt64).toNat = 4607182418800017408 := by decide
theorem dk0 : (FP.dconst0 : UInt64).toNat = 0 := by decide
theorem dk2 : (4611686018427387904 : UInt64).toNat = 4611686018427387904 := by decide
section
variable {N : Nat} {x0 : UInt64} {t : Nat}
theorem db_87 {v : UInt64} (h : dN v 1023 t) (y4 : Int) : m_X5_doubleBits_b87 N x0 v y4 = some (y4 * 4503599627370496 + (t : Int)) := by
  obtain ⟨h1, h2⟩ := dN_frac h
  have h3 := h.2.1
  rw [m_X5_doubleBits_b87]
  refine gd_ok (n64_of h1) (gd_ok (n64_of (FP.Core.DInt_ne_nan h2)) ?_)
  rw [d2L_whole h2 (by constructor <;> omega)]
theorem db_55 {e0 : Nat} {P : Int} (h0 : 1 ≤ e0) : ∀ (f : Nat) (v : UInt64) (e : Nat) (y4 y6 : Int), dN v e t → e0 ≤ e → e ≤ 1023 → y6 = (e : Int) - e0 → y4 = P + (1023 - (e : Int)) → 1023 - e < f → m_X5_doubleBits_b55 N x0 f v y4 y6 = some (P * 4503599627370496 + (t : Int)) := by
  intro f
  induction f with
  | zero => intro v e y4 y6 _ _ _ _ _ h; omega
  | succ f ih =>
    intro v e y4 y6 hd a1 a2 a3 a4 hf
    obtain ⟨d1, d2, d3, d4⟩ := id hd
    have hk : dcV v FP.dconst1 .g = if v.toNat < FP.dconst1.toNat then -1 else if v.toNat = FP.dconst1.toNat then 0 else 1 := dcV_key (by omega) (by rw [dk1]; decide)
    rw [dk1] at hk
    rw [m_X5_doubleBits_b55]
    refine gd_ok ⟨by omega, by omega⟩ ?_
    by_cases c : e = 1023
    · subst c
      have e4 : y4 = P := by omega
      rw [e4]
      by_cases c2 : 1022 ≤ y6
      · exact ip_ok c2 (db_87 hd _)
      · refine in_ok c2 (ip_ok ?_ (db_87 hd _))
        rw [hk, if_neg (by omega)]
        by_cases c3 : v.toNat = 4607182418800017408
        · rw [if_pos c3]; decide
        · rw [if_neg c3]; decide
    · refine in_ok (by omega) (in_ok ?_ ?_)
      · rw [hk, if_pos (by omega)]; decide
      · have hd2 := dN_dbl hd (by omega)
        refine gd_ok (n64_of (dN_nn hd2)) ?_
        exact ih _ (e + 1) _ _ hd2 (by omega) (by omega) (by omega) (by omega) (by omega)
theorem db_52 (hN : 40000 ≤ N) {P : Int} {v : UInt64} {e : Nat} (hd : dN v e t) (he : e ≤ 1023) : m_X5_doubleBits_b52 N x0 v (P + (1023 - (e : Int))) = some (P * 4503599627370496 + (t : Int)) := by
  rw [m_X5_doubleBits_b52]
  exact db_55 hd.2.2.1 N v e _ 0 hd (Nat.le_refl _) he (by omega) rfl (by omega)
theorem db_18 (hN : 40000 ≤ N) {e0 : Nat} (h0 : e0 ≤ 2046) : ∀ (f : Nat) (v : UInt64) (e : Nat) (y4 y6 : Int), dN v e t → e ≤ e0 → (e = e0 ∨ 1023 ≤ e) → y6 = (e0 : Int) - e → y4 = 1023 + y6 → e < f → m_X5_doubleBits_b18 N x0 f v y4 y6 = some ((e0 : Int) * 4503599627370496 + (t : Int)) := by
  intro f
  induction f with
  | zero => intro v e y4 y6 _ _ _ _ _ h; omega
  | succ f ih =>
    intro v e y4 y6 hd a1 a2 a3 a4 hf
    obtain ⟨d1, d2, d3, d4⟩ := id hd
    have hk : dcV v 4611686018427387904 .l = if v.toNat < (4611686018427387904 : UInt64).toNat then -1 else if v.toNat = (4611686018427387904 : UInt64).toNat then 0 else 1 := dcV_key (by omega) (by rw [dk2]; decide)
    rw [dk2] at hk
    rw [m_X5_doubleBits_b18]
    refine gd_ok ⟨by omega, by omega⟩ ?_
    by_cases c : e ≤ 1023
    · have e4 : y4 = (e0 : Int) + (1023 - (e : Int)) := by omega
      rw [e4]
      by_cases c2 : 1023 ≤ y6
      · exact ip_ok c2 (db_52 hN hd c)
      · refine in_ok c2 (ip_ok ?_ (db_52 hN hd c))
        rw [hk, if_pos (by omega)]; decide
    · refine in_ok (by omega) (in_ok ?_ ?_)
      · rw [hk, if_neg (by omega)]
        by_cases c3 : v.toNat = 4611686018427387904
        · rw [if_pos c3]; decide
        · rw [if_neg c3]; decide
      · have hd2 := dN_half hd (by omega)
        refine gd_ok (n64_of (dN_nn hd2)) ?_
        exact ih _ (e - 1) _ _ hd2 (by omega) (by omega) (by omega) (by omega) (by omega)
end
def gZ (x : UInt64) : Prop := x.toNat = 0 ∨ ∃ e t, dN x e t
theorem gZ.le {x : UInt64} (h : gZ x) : x.toNat ≤ 9218868437227405312 := by
  rcases h with h | ⟨e, t, h1, h2, h3, h4⟩ <;> omega
theorem gZ.nn {x : UInt64} (h : gZ x) : n64 x := n64_of (nn_of h.le)
theorem db_ok {N : Nat} (hN : 40000 ≤ N) {x : UInt64} (h : gZ x) : m_X5_doubleBits N x = some (dB x) := by
  have hl := h.le
  have hk : dcV x FP.dconst0 .l = if x.toNat < FP.dconst0.toNat then -1 else if x.toNat = FP.dconst0.toNat then 0 else 1 := dcV_key hl (by rw [dk0]; decide)
  rw [dk0] at hk
  rw [m_X5_doubleBits, dB_nat (by omega)]
  rcases h with h | ⟨e, t, hd⟩
  · refine in_ok ?_ (by rw [h]; rfl)
    rw [hk, if_neg (by omega), if_pos h]; decide
  · obtain ⟨d1, d2, d3, d4⟩ := id hd
    refine ip_ok ?_ ?_
    · rw [hk, if_neg (by omega), if_neg (by omega)]; decide
    · rw [db_18 hN d4 N x e 1023 0 hd (Nat.le_refl _) (Or.inl rfl) (by omega) rfl (by omega), d1]
      congr 1
theorem rb_ok {N : Nat} {x : UInt64} (h : gZ x) : m_X13_bits N x = some (dB x) := by
  have hl := h.le
  have hk : dcV x x .l = 0 := by rw [dcV_key hl hl, if_neg (by omega), if_pos rfl]
  rw [m_X13_bits, m_Jxe99ae_doubleToLongBits_ccdee, m_Jxe99ae_isNaN_b9ae7, if_pos hk, so_bd, gd_t (by decide), if_pos rfl, so_bd]
