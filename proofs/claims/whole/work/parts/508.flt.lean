/-! floats: their bits -/
def fN (x : UInt32) (e t : Nat) : Prop := x.toNat = e * 8388608 + t ∧ t < 8388608 ∧ 1 ≤ e ∧ e ≤ 254
theorem fp_t32 : FP.Core.b32.tails = 8388608 := by decide
theorem fp_e32 : FP.Core.b32.exps = 256 := by decide
theorem fp_p32 : FP.Core.b32.p = 24 := by decide
theorem fp_q32 : FP.Core.b32.qmin = -149 := by decide
theorem fp_Q32 : FP.Core.b32.qmax = 104 := by decide
theorem fp_24 {n : Nat} (h : n < 16777216) : n < 2 ^ FP.Core.b32.p := by
  rw [fp_p32]
  have : (2 : Nat) ^ 24 = 16777216 := by decide
  omega
theorem fN_val {x : UInt32} {e t : Nat} (h : fN x e t) : FP.Core.val32 x = .fin false (8388608 + t) ((e : Int) - 150) := by
  obtain ⟨h1, h2, h3, h4⟩ := h
  have e1 : FP.Core.fieldT FP.Core.b32 x.toNat = t := by unfold FP.Core.fieldT; rw [fp_t32]; omega
  have e2 : FP.Core.fieldE FP.Core.b32 x.toNat = e := by unfold FP.Core.fieldE; rw [fp_t32, fp_e32]; omega
  have e3 : FP.Core.fieldS FP.Core.b32 x.toNat = false := by
    unfold FP.Core.fieldS; rw [fp_t32, fp_e32]
    have : x.toNat / 8388608 / 256 % 2 = 0 := by omega
    rw [this]; rfl
  unfold FP.Core.val32 FP.Core.decode
  rw [e1, e2, e3, fp_t32, fp_e32, if_neg (by omega), if_neg (by omega), fp_q32]
  congr 1
  omega
theorem fN_fits {e t : Nat} (ht : t < 8388608) (h1 : 1 ≤ e) (h2 : e ≤ 254) : FP.Core.fits FP.Core.b32 (.fin false (8388608 + t) ((e : Int) - 150)) := by
  unfold FP.Core.fits
  rw [fp_p32, fp_q32, fp_Q32, fp_t32]
  refine ⟨?_, by omega, by omega, Or.inr (by omega)⟩
  have : (2 : Nat) ^ 24 = 16777216 := by decide
  omega
theorem fN_of {y : UInt32} {e t : Nat} (h : FP.Core.val32 y = .fin false (8388608 + t) ((e : Int) - 150)) (ht : t < 8388608) (h1 : 1 ≤ e) (h2 : e ≤ 254) : fN y e t := by
  have hx : (UInt32.ofNat (e * 8388608 + t)).toNat = e * 8388608 + t := by
    rw [UInt32.toNat_ofNat']
    exact Nat.mod_eq_of_lt (by omega)
  have hd : fN (UInt32.ofNat (e * 8388608 + t)) e t := ⟨hx, ht, h1, h2⟩
  have := FP.Core.val32_inj (a := y) (b := UInt32.ofNat (e * 8388608 + t)) (by rw [h]; exact FP.Core.Datum.noConfusion) (by rw [h, fN_val hd])
  rw [this]
  exact hd
theorem ff_two : FP.Core.val32 FP.fconst2 = .fin false 8388608 (-22) := by decide +kernel
theorem ff_one : FP.Core.val32 FP.fconst1 = .fin false 8388608 (-23) := by decide +kernel
theorem ff_big : FP.Core.val32 1258291200 = .fin false 8388608 0 := by decide +kernel
theorem fN_dbl {x : UInt32} {e t : Nat} (h : fN x e t) (he : e ≤ 253) : fN (FP.fmul x FP.fconst2) (e + 1) t := by
  have hv := fN_val h
  obtain ⟨h1, h2, h3, h4⟩ := h
  refine fN_of ?_ h2 (by omega) (by omega)
  rw [FP.Core.val32_fmul, hv, ff_two]
  show FP.Core.roundRatio FP.Core.b32 (false != false) ((8388608 + t) * 8388608) 1 ((e : Int) - 150 + -22) = _
  refine FP.Core.roundRatio_exact FP.Core.good_b32 (by decide) (fN_fits h2 (by omega) (by omega)) ?_
  rw [show ((e : Int) - 150 + -22 - (((e + 1 : Nat) : Int) - 150)).toNat = 0 by omega, show ((((e + 1 : Nat) : Int) - 150) - ((e : Int) - 150 + -22)).toNat = 23 by omega]
  omega
theorem n32_of {r : UInt32} (h : FP.Core.val32 r ≠ .nan) : n32 r := by
  have h1 := (FP.Core.ne_nan32 r).mp h
  show r &&& 0x7fffffff ≤ 0x7f800000
  rw [UInt32.le_iff_toNat_le, FP.Core.mask_toNat32]
  exact h1
theorem fN_nn {x : UInt32} {e t : Nat} (h : fN x e t) : FP.Core.val32 x ≠ .nan := by rw [fN_val h]; exact FP.Core.Datum.noConfusion
theorem fN_frac {x : UInt32} {t : Nat} (h : fN x 127 t) : FP.Core.val32 (FP.fsub x FP.fconst1) ≠ .nan ∧ FP.Core.FInt (t : Int) (FP.fmul (FP.fsub x FP.fconst1) 1258291200) := by
  have hv := fN_val h
  obtain ⟨h1, h2, h3, h4⟩ := h
  have e1 : FP.Core.exactSum (.fin false (8388608 + t) (((127 : Nat) : Int) - 150)) (FP.Core.negate (.fin false 8388608 (-23))) = .fin false t (-23) := by
    show FP.Core.Datum.fin (FP.Core.sumSign false true (FP.Core.sumUnits false (8388608 + t) (-23) true 8388608 (-23) (min (-23) (-23)))) (FP.Core.sumUnits false (8388608 + t) (-23) true 8388608 (-23) (min (-23) (-23))).natAbs (min (-23) (-23)) = _
    have eu : FP.Core.sumUnits false (8388608 + t) (-23) true 8388608 (-23) (min (-23) (-23)) = (t : Int) := by
      unfold FP.Core.sumUnits FP.Core.signed FP.Core.inUnits
      rw [show ((-23 : Int) - min (-23) (-23)).toNat = 0 by decide]
      simp only [Bool.false_eq_true, if_false, if_true, Nat.pow_zero, Nat.mul_one]
      omega
    rw [eu]
    have es : FP.Core.sumSign false true (t : Int) = false := by
      unfold FP.Core.sumSign
      by_cases c : (t : Int) = 0
      · rw [if_pos c]; rfl
      · rw [if_neg c, decide_eq_false_iff_not]; omega
    rw [es, Int.natAbs_natCast]
    rfl
  obtain ⟨c', q', r1, r2⟩ := FP.Core.round_exact FP.Core.good_b32 false (c := t) (q := -23) (fp_24 (by omega)) (by rw [fp_q32]; decide) (by rw [fp_Q32]; decide)
  have hs : FP.Core.val32 (FP.fsub x FP.fconst1) = .fin false c' q' := by
    rw [FP.Core.val32_fsub, hv, ff_one, e1, r1]
  refine ⟨by rw [hs]; exact FP.Core.Datum.noConfusion, ?_⟩
  have hf := FP.Core.val32_fits (FP.fsub x FP.fconst1)
  rw [hs] at hf
  have hq := hf.2.1
  rw [fp_q32] at hq
  unfold FP.Core.inUnits at r2
  rw [fp_q32, show ((-23 : Int) - -149).toNat = 126 by decide] at r2
  unfold FP.Core.FInt
  rw [FP.Core.val32_fmul, hs, ff_big]
  refine FP.Core.whole_round FP.Core.good_b32 FP.Core.wide_b32 (Nat.le_of_lt (fp_24 (by omega))) ?_
  show FP.Core.signed (false != false) (c' * 8388608 * 2 ^ (q' + 0).toNat) = (t : Int) * ((2 ^ (-(q' + 0)).toNat : Nat) : Int)
  rw [Int.add_zero]
  show (((c' * 8388608 * 2 ^ q'.toNat : Nat)) : Int) = _
  rw [← Int.natCast_mul]
  congr 1
  have e52 : (8388608 : Nat) = 2 ^ 23 := by decide
  rw [e52]
  by_cases c : 0 ≤ q'
  · rw [show (q' - -149).toNat = q'.toNat + 23 + 126 by omega, Nat.pow_add, ← Nat.mul_assoc] at r2
    have := Nat.eq_of_mul_eq_mul_right (Nat.two_pow_pos 126) r2
    rw [show (-q').toNat = 0 by omega, Nat.pow_zero, Nat.mul_one, ← this, Nat.pow_add, Nat.mul_assoc, Nat.mul_comm (2 ^ 23)]
  · rw [show q'.toNat = 0 by omega, Nat.pow_zero, Nat.mul_one]
    refine Nat.eq_of_mul_eq_mul_right (Nat.two_pow_pos (q' - -149).toNat) ?_
    rw [Nat.mul_right_comm, r2, Nat.mul_assoc, Nat.mul_assoc, ← Nat.pow_add, ← Nat.pow_add]
    congr 2
    omega
theorem f2L_whole {y : UInt32} {k : Int} (h : FP.Core.FInt k y) (hk : rL k) : f2L y = k := by
  have e := kL_toInt hk
  rw [← e] at h
  have := FP.Core.f2l_int h
  show (FP.Core.f2l y).toInt = k
  rw [this, e]
theorem nn32_of {x : UInt32} (h : x.toNat ≤ 2139095040) : FP.Core.val32 x ≠ .nan := (FP.Core.ne_nan32 x).mpr (by omega)
theorem fcV_key {x y : UInt32} {op : CmpOp} (hx : x.toNat ≤ 2139095040) (hy : y.toNat ≤ 2139095040) : fcV x y op = if x.toNat < y.toNat then -1 else if x.toNat = y.toNat then 0 else 1 := by
  have hm := FP.Core.mono_bits32 (nn32_of hx) (nn32_of hy) (by omega) (by omega)
  unfold fcV
  show (Op.cmpValue (FP.Core.fcmp x y) op).toInt = _
  by_cases c : x.toNat < y.toNat
  · rw [hm.1.mpr c, if_pos c]; rfl
  · by_cases d : x.toNat = y.toNat
    · rw [hm.2.1.mpr d, if_neg c, if_pos d]; rfl
    · rw [hm.2.2.mpr (by omega), if_neg c, if_neg d]; rfl
theorem fB_nat {x : UInt32} (h : x.toNat < 2147483648) : fB x = (x.toNat : Int) := by
  show x.toInt32.toBitVec.toInt = _
  have e : x.toInt32.toBitVec = x.toBitVec := rfl
  rw [e, BitVec.toInt_eq_toNat_of_lt]
  · rfl
  · have : x.toBitVec.toNat = x.toNat := rfl
    omega
theorem fk1 : (FP.fconst1 : UInt32).toNat = 1065353216 := by decide
theorem fk0 : (FP.fconst0 : UInt32).toNat = 0 := by decide
section
variable {N : Nat} {x0 : UInt32} {t : Nat}
theorem fb_44 {v : UInt32} (h : fN v 127 t) (y4 : Int) : m_X5_floatBits_b44 N x0 v y4 = some (y4 * 8388608 + (t : Int)) := by
  obtain ⟨h1, h2⟩ := fN_frac h
  have h3 := h.2.1
  rw [m_X5_floatBits_b44]
  refine gd_ok (n32_of h1) (gd_ok (n32_of (FP.Core.FInt_ne_nan h2)) ?_)
  rw [f2L_whole h2 (by constructor <;> omega)]
theorem fb_17 {e0 : Nat} {P : Int} (h0 : 1 ≤ e0) : ∀ (f : Nat) (v : UInt32) (e : Nat) (y4 y6 : Int), fN v e t → e0 ≤ e → e ≤ 127 → y6 = (e : Int) - e0 → y4 = P + (127 - (e : Int)) → 127 - e < f → m_X5_floatBits_b17 N x0 f v y4 y6 = some (P * 8388608 + (t : Int)) := by
  intro f
  induction f with
  | zero => intro v e y4 y6 _ _ _ _ _ h; omega
  | succ f ih =>
    intro v e y4 y6 hd a1 a2 a3 a4 hf
    obtain ⟨d1, d2, d3, d4⟩ := id hd
    have hk : fcV v FP.fconst1 .g = if v.toNat < FP.fconst1.toNat then -1 else if v.toNat = FP.fconst1.toNat then 0 else 1 := fcV_key (by omega) (by rw [fk1]; decide)
    rw [fk1] at hk
    rw [m_X5_floatBits_b17]
    refine gd_ok ⟨by omega, by omega⟩ ?_
    by_cases c : e = 127
    · subst c
      have e4 : y4 = P := by omega
      rw [e4]
      by_cases c2 : 126 ≤ y6
      · exact ip_ok c2 (fb_44 hd _)
      · refine in_ok c2 (ip_ok ?_ (fb_44 hd _))
        rw [hk, if_neg (by omega)]
        by_cases c3 : v.toNat = 1065353216
        · rw [if_pos c3]; decide
        · rw [if_neg c3]; decide
    · refine in_ok (by omega) (in_ok ?_ ?_)
      · rw [hk, if_pos (by omega)]; decide
      · have hd2 := fN_dbl hd (by omega)
        refine gd_ok (n32_of (fN_nn hd2)) ?_
        exact ih _ (e + 1) _ _ hd2 (by omega) (by omega) (by omega) (by omega) (by omega)
end
def fZ (x : UInt32) : Prop := x.toNat = 0 ∨ ∃ e t, fN x e t ∧ e ≤ 127
theorem fZ.le {x : UInt32} (h : fZ x) : x.toNat ≤ 2139095040 := by
  rcases h with h | ⟨e, t, ⟨h1, h2, h3, h4⟩, h5⟩ <;> omega
theorem fZ.nn {x : UInt32} (h : fZ x) : n32 x := n32_of (nn32_of h.le)
theorem fb_ok {N : Nat} (hN : 40000 ≤ N) {x : UInt32} (h : fZ x) : m_X5_floatBits N x = some (fB x) := by
  have hl := h.le
  have hk : fcV x FP.fconst0 .l = if x.toNat < FP.fconst0.toNat then -1 else if x.toNat = FP.fconst0.toNat then 0 else 1 := fcV_key hl (by rw [fk0]; decide)
  rw [fk0] at hk
  rw [m_X5_floatBits, fB_nat (by omega)]
  rcases h with h | ⟨e, t, hd, he⟩
  · refine in_ok ?_ (by rw [h]; rfl)
    rw [hk, if_neg (by omega), if_pos h]; decide
  · obtain ⟨d1, d2, d3, d4⟩ := id hd
    refine ip_ok ?_ ?_
    · rw [hk, if_neg (by omega), if_neg (by omega)]; decide
    · rw [fb_17 (P := (e : Int)) d3 N x e 127 0 (by exact hd) (Nat.le_refl _) he (by omega) (by omega) (by omega), d1]
      congr 1
theorem rfb_ok {N : Nat} {x : UInt32} (h : fZ x) : m_Jxf58ca_floatToIntBits_5c35a N x = some (fB x) := by
  have hl := h.le
  have hk : fcV x x .l = 0 := by rw [fcV_key hl hl, if_neg (by omega), if_pos rfl]
  rw [m_Jxf58ca_floatToIntBits_5c35a, m_Jxf58ca_isNaN_12338, if_pos hk, so_bd, gd_t (by decide), if_pos rfl]
