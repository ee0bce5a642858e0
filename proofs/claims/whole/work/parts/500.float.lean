/-! doubles that are 0 or of the common kind: their bits -/
def dN (x : UInt64) (e t : Nat) : Prop := x.toNat = e * 4503599627370496 + t ∧ t < 4503599627370496 ∧ 1 ≤ e ∧ e ≤ 2046
theorem fp_t64 : FP.Core.b64.tails = 4503599627370496 := by decide
theorem fp_e64 : FP.Core.b64.exps = 2048 := by decide
theorem fp_p64 : FP.Core.b64.p = 53 := by decide
theorem fp_q64 : FP.Core.b64.qmin = -1074 := by decide
theorem fp_Q64 : FP.Core.b64.qmax = 971 := by decide
theorem fp_quot {s t : Bool} {c d : Nat} {q r : Int} (hd : d ≠ 0) : FP.Core.quotient FP.Core.b64 (.fin s c q) (.fin t d r) = FP.Core.roundRatio FP.Core.b64 (s != t) c d (q - r) := if_neg hd
theorem fp_53 {n : Nat} (h : n < 9007199254740992) : n < 2 ^ FP.Core.b64.p := by
  rw [fp_p64]
  have : (2 : Nat) ^ 53 = 9007199254740992 := by decide
  omega
theorem dN_val {x : UInt64} {e t : Nat} (h : dN x e t) : FP.Core.val64 x = .fin false (4503599627370496 + t) ((e : Int) - 1075) := by
  obtain ⟨h1, h2, h3, h4⟩ := h
  have e1 : FP.Core.fieldT FP.Core.b64 x.toNat = t := by unfold FP.Core.fieldT; rw [fp_t64]; omega
  have e2 : FP.Core.fieldE FP.Core.b64 x.toNat = e := by unfold FP.Core.fieldE; rw [fp_t64, fp_e64]; omega
  have e3 : FP.Core.fieldS FP.Core.b64 x.toNat = false := by
    unfold FP.Core.fieldS; rw [fp_t64, fp_e64]
    have : x.toNat / 4503599627370496 / 2048 % 2 = 0 := by omega
    rw [this]; rfl
  unfold FP.Core.val64 FP.Core.decode
  rw [e1, e2, e3, fp_t64, fp_e64, if_neg (by omega), if_neg (by omega), fp_q64]
  congr 1
  omega
theorem dN_fits {e t : Nat} (ht : t < 4503599627370496) (h1 : 1 ≤ e) (h2 : e ≤ 2046) : FP.Core.fits FP.Core.b64 (.fin false (4503599627370496 + t) ((e : Int) - 1075)) := by
  unfold FP.Core.fits
  rw [fp_p64, fp_q64, fp_Q64, fp_t64]
  refine ⟨?_, by omega, by omega, Or.inr (by omega)⟩
  have : (2 : Nat) ^ 53 = 9007199254740992 := by decide
  omega
theorem dN_of {y : UInt64} {e t : Nat} (h : FP.Core.val64 y = .fin false (4503599627370496 + t) ((e : Int) - 1075)) (ht : t < 4503599627370496) (h1 : 1 ≤ e) (h2 : e ≤ 2046) : dN y e t := by
  have hx : (UInt64.ofNat (e * 4503599627370496 + t)).toNat = e * 4503599627370496 + t := by
    rw [UInt64.toNat_ofNat']
    exact Nat.mod_eq_of_lt (by omega)
  have hd : dN (UInt64.ofNat (e * 4503599627370496 + t)) e t := ⟨hx, ht, h1, h2⟩
  have := FP.Core.val64_inj (a := y) (b := UInt64.ofNat (e * 4503599627370496 + t)) (by rw [h]; exact FP.Core.Datum.noConfusion) (by rw [h, dN_val hd])
  rw [this]
  exact hd
theorem fp_two : FP.Core.val64 4611686018427387904 = .fin false 4503599627370496 (-51) := by decide +kernel
theorem fp_one : FP.Core.val64 FP.dconst1 = .fin false 4503599627370496 (-52) := by decide +kernel
theorem fp_big : FP.Core.val64 4841369599423283200 = .fin false 4503599627370496 0 := by decide +kernel
theorem dN_half {x : UInt64} {e t : Nat} (h : dN x e t) (he : 2 ≤ e) : dN (FP.ddiv x 4611686018427387904) (e - 1) t := by
  have hv := dN_val h
  obtain ⟨h1, h2, h3, h4⟩ := h
  refine dN_of ?_ h2 (by omega) (by omega)
  rw [FP.Core.val64_ddiv, hv, fp_two]
  rw [fp_quot (by decide)]
  refine FP.Core.roundRatio_exact FP.Core.good_b64 (by decide) (dN_fits h2 (by omega) (by omega)) ?_
  rw [show ((e : Int) - 1075 - -51 - (((e - 1 : Nat) : Int) - 1075)).toNat = 52 by omega, show ((((e - 1 : Nat) : Int) - 1075) - ((e : Int) - 1075 - -51)).toNat = 0 by omega]
  omega
theorem dN_dbl {x : UInt64} {e t : Nat} (h : dN x e t) (he : e ≤ 2045) : dN (FP.dmul x 4611686018427387904) (e + 1) t := by
  have hv := dN_val h
  obtain ⟨h1, h2, h3, h4⟩ := h
  refine dN_of ?_ h2 (by omega) (by omega)
  rw [FP.Core.val64_dmul, hv, fp_two]
  show FP.Core.roundRatio FP.Core.b64 (false != false) ((4503599627370496 + t) * 4503599627370496) 1 ((e : Int) - 1075 + -51) = _
  refine FP.Core.roundRatio_exact FP.Core.good_b64 (by decide) (dN_fits h2 (by omega) (by omega)) ?_
  rw [show ((e : Int) - 1075 + -51 - (((e + 1 : Nat) : Int) - 1075)).toNat = 0 by omega, show ((((e + 1 : Nat) : Int) - 1075) - ((e : Int) - 1075 + -51)).toNat = 52 by omega]
  omega
theorem n64_of {r : UInt64} (h : FP.Core.val64 r ≠ .nan) : n64 r := by
  have h1 := (FP.Core.ne_nan r).mp h
  show r &&& 0x7fffffffffffffff ≤ 0x7ff0000000000000
  rw [UInt64.le_iff_toNat_le, FP.Core.mask_toNat]
  exact h1
theorem dN_nn {x : UInt64} {e t : Nat} (h : dN x e t) : FP.Core.val64 x ≠ .nan := by rw [dN_val h]; exact FP.Core.Datum.noConfusion
theorem dN_frac {x : UInt64} {t : Nat} (h : dN x 1023 t) : FP.Core.val64 (FP.dsub x FP.dconst1) ≠ .nan ∧ FP.Core.DInt (t : Int) (FP.dmul (FP.dsub x FP.dconst1) 4841369599423283200) := by
  have hv := dN_val h
  obtain ⟨h1, h2, h3, h4⟩ := h
  have e1 : FP.Core.exactSum (.fin false (4503599627370496 + t) (((1023 : Nat) : Int) - 1075)) (FP.Core.negate (.fin false 4503599627370496 (-52))) = .fin false t (-52) := by
    show FP.Core.Datum.fin (FP.Core.sumSign false true (FP.Core.sumUnits false (4503599627370496 + t) (-52) true 4503599627370496 (-52) (min (-52) (-52)))) (FP.Core.sumUnits false (4503599627370496 + t) (-52) true 4503599627370496 (-52) (min (-52) (-52))).natAbs (min (-52) (-52)) = _
    have eu : FP.Core.sumUnits false (4503599627370496 + t) (-52) true 4503599627370496 (-52) (min (-52) (-52)) = (t : Int) := by
      unfold FP.Core.sumUnits FP.Core.signed FP.Core.inUnits
      rw [show ((-52 : Int) - min (-52) (-52)).toNat = 0 by decide]
      simp only [Bool.false_eq_true, if_false, if_true, Nat.pow_zero, Nat.mul_one]
      omega
    rw [eu]
    have es : FP.Core.sumSign false true (t : Int) = false := by
      unfold FP.Core.sumSign
      by_cases c : (t : Int) = 0
      · rw [if_pos c]; rfl
      · rw [if_neg c, decide_eq_false_iff_not]; omega
    rw [es, Int.natAbs_natCast]
    rfl
  obtain ⟨c', q', r1, r2⟩ := FP.Core.round_exact FP.Core.good_b64 false (c := t) (q := -52) (fp_53 (by omega)) (by rw [fp_q64]; decide) (by rw [fp_Q64]; decide)
  have hs : FP.Core.val64 (FP.dsub x FP.dconst1) = .fin false c' q' := by
    rw [FP.Core.val64_dsub, hv, fp_one, e1, r1]
  refine ⟨by rw [hs]; exact FP.Core.Datum.noConfusion, ?_⟩
  have hf := FP.Core.val64_fits (FP.dsub x FP.dconst1)
  rw [hs] at hf
  have hq := hf.2.1
  rw [fp_q64] at hq
  unfold FP.Core.inUnits at r2
  rw [fp_q64, show ((-52 : Int) - -1074).toNat = 1022 by decide] at r2
  unfold FP.Core.DInt
  rw [FP.Core.val64_dmul, hs, fp_big]
  refine FP.Core.whole_round FP.Core.good_b64 FP.Core.wide_b64 (Nat.le_of_lt (fp_53 (by omega))) ?_
  show FP.Core.signed (false != false) (c' * 4503599627370496 * 2 ^ (q' + 0).toNat) = (t : Int) * ((2 ^ (-(q' + 0)).toNat : Nat) : Int)
  rw [Int.add_zero]
  show (((c' * 4503599627370496 * 2 ^ q'.toNat : Nat)) : Int) = _
  rw [← Int.natCast_mul]
  congr 1
  have e52 : (4503599627370496 : Nat) = 2 ^ 52 := by decide
  rw [e52]
  by_cases c : 0 ≤ q'
  · rw [show (q' - -1074).toNat = q'.toNat + 52 + 1022 by omega, Nat.pow_add, ← Nat.mul_assoc] at r2
    have := Nat.eq_of_mul_eq_mul_right (Nat.two_pow_pos 1022) r2
    rw [show (-q').toNat = 0 by omega, Nat.pow_zero, Nat.mul_one, ← this, Nat.pow_add, Nat.mul_assoc, Nat.mul_comm (2 ^ 52)]
  · rw [show q'.toNat = 0 by omega, Nat.pow_zero, Nat.mul_one]
    refine Nat.eq_of_mul_eq_mul_right (Nat.two_pow_pos (q' - -1074).toNat) ?_
    rw [Nat.mul_right_comm, r2, Nat.mul_assoc, Nat.mul_assoc, ← Nat.pow_add, ← Nat.pow_add]
    congr 2
    omega
theorem d2L_whole {y : UInt64} {k : Int} (h : FP.Core.DInt k y) (hk : rL k) : d2L y = k := by
  have e := kL_toInt hk
  rw [← e] at h
  have := FP.Core.d2l_int h
  show (FP.Core.d2l y).toInt = k
  rw [this, e]
