theorem qd_le1 {x y : Int} (hx : 0 ≤ x) (hxy : x ≤ y) (hy : 1 ≤ y ∧ y ≤ 11880) : (qd x y).toNat ≤ 4607182418800017408 := by
  obtain ⟨g1, n1⟩ := l2d_gD (k := x) hx ⟨by omega, by omega⟩
  obtain ⟨g2, n2⟩ := l2d_gD (k := y) (by omega) ⟨by omega, by omega⟩
  obtain ⟨eb, tb, db, b1, b2⟩ := g2.dN (n2 hy.1) (by decide) (by decide)
  by_cases c : (FP.l2d (kL x)).toNat = 0
  · have g := ddiv_gD (a := FP.l2d (kL x)) (b := FP.l2d (kL y)) (la := 1023) (ha := 1088) (Or.inl c) g2 (n2 hy.1) (by decide) (by decide) (by decide) (by decide) (by decide) (by decide) (by decide)
    have e : FP.Core.val64 (FP.ddiv 0 (FP.l2d (kL y))) = FP.Core.val64 0 := by
      rw [FP.Core.val64_ddiv, dN_val db, FP.Core.val64_zero, fp_quot (by have := db.2.1; omega)]
      rfl
    have e2 : qd x y = 0 := by
      show FP.ddiv (FP.l2d (kL x)) (FP.l2d (kL y)) = 0
      rw [eq_zero c]
      exact FP.Core.val64_inj (by rw [e, FP.Core.val64_zero]; exact FP.Core.Datum.noConfusion) e
    rw [e2]
    decide
  · obtain ⟨ea, ta, da, a1, a2⟩ := g1.dN c (by decide) (by decide)
    have va := dN_val da
    have vb := dN_val db
    have ua := l2d_units hx (show x ≤ 9007199254740992 by omega)
    have ub := l2d_units (k := y) (by omega) (by omega)
    have ia : (FP.l2d (kL x)).toNat < 9218868437227405312 := by rcases g1 with h | ⟨h, h'⟩ <;> omega
    have ib : (FP.l2d (kL y)).toNat < 9218868437227405312 := by rcases g2 with h | ⟨h, h'⟩ <;> omega
    obtain ⟨xa, qa, va', za⟩ := pos_fin ia
    obtain ⟨xb, qb, vb', zb⟩ := pos_fin ib
    rw [va] at va'
    rw [vb] at vb'
    injection va' with _ w1 w2
    injection vb' with _ w3 w4
    subst w1 w2 w3 w4
    rw [ua] at za
    rw [ub] at zb
    unfold FP.Core.inUnits at za zb
    rw [fp_q64, show ((ea : Int) - 1075 - -1074).toNat = ea - 1 by omega] at za
    rw [fp_q64, show ((eb : Int) - 1075 - -1074).toNat = eb - 1 by omega] at zb
    have hle : (4503599627370496 + ta) * 2 ^ (ea - 1) ≤ (4503599627370496 + tb) * 2 ^ (eb - 1) := by
      rw [za, zb]
      exact Nat.mul_le_mul_right _ (by omega)
    have hq : FP.Core.val64 (qd x y) = FP.Core.roundRatio FP.Core.b64 (false != false) (4503599627370496 + ta) (4503599627370496 + tb) ((ea : Int) - 1075 - ((eb : Int) - 1075)) := by
      show FP.Core.val64 (FP.ddiv (FP.l2d (kL x)) (FP.l2d (kL y))) = _
      rw [FP.Core.val64_ddiv, va, vb, fp_quot (by omega)]
    have hm := FP.Core.mag_le FP.Core.good_b64 (n := (qd x y).toNat) (m := 1023 * 4503599627370496) (e0 := -4000) hq (by omega) (by rw [fp_q64]; decide) (by omega) ?_
    · have hs : (qd x y).toNat < 9223372036854775808 := (ddiv_lo da db (by omega) (by omega)).1
      rw [FP.Core.mag_toNat64] at hm
      omega
    · rw [us64 (by decide), fp_q64]
      unfold FP.Core.inUnits
      rw [show ((-1074 : Int) - -4000).toNat = 2926 by decide]
      refine Nat.le_of_mul_le_mul_right (c := 2 ^ (eb - 1)) ?_ (Nat.two_pow_pos _)
      rw [show ((ea : Int) - 1075 - ((eb : Int) - 1075) - -4000).toNat = ea + 4000 - eb by omega, Nat.mul_assoc, ← Nat.pow_add, show ea + 4000 - eb + (eb - 1) = (ea - 1) + 4000 by omega, Nat.pow_add, ← Nat.mul_assoc]
      rw [← Nat.pow_add, show 52 + (1023 - 1) + 2926 = 4000 by decide, Nat.mul_comm (2 ^ 4000), Nat.mul_right_comm (4503599627370496 + tb)]
      exact Nat.mul_le_mul_right _ hle
theorem mod_div {a K P : Nat} (h : ∃ z, a = z * 2 ^ K) (hK : K ≤ P) : ∃ z, a % 2 ^ P = z * 2 ^ K := by
  obtain ⟨z, rfl⟩ := h
  refine ⟨z % 2 ^ (P - K), ?_⟩
  have e : 2 ^ P = 2 ^ (P - K) * 2 ^ K := by rw [← Nat.pow_add]; exact congrArg (2 ^ ·) (by omega)
  rw [e, Nat.mul_mod_mul_right]
theorem frac_ok {y : UInt64} (h : gD 967 1035 y) : FP.dsub y (FP.l2d (kL (d2L y))) = FP.drem y FP.dconst1 ∧ gZ (FP.drem y FP.dconst1) := by
  have ia : y.toNat < 9218868437227405312 := by rcases h with h | ⟨h, h'⟩ <;> omega
  obtain ⟨c, q, v, z⟩ := pos_fin ia
  have hu : FP.Core.unitsOf FP.Core.b64 y.toNat < 2 ^ (52 + 1034) := by
    rw [show (52 + 1034 : Nat) = 52 + (1035 - 1) by decide, ← us64 (K := 1035) (by decide)]
    exact FP.Core.unitsOf_lt_iff.mpr (by rcases h with h | ⟨h, h'⟩ <;> omega)
  have e1 : (FP.Core.one64 : Nat) = 2 ^ 1074 := rfl
  have hk : FP.Core.unitsOf FP.Core.b64 y.toNat / 2 ^ 1074 < 4096 := by
    rw [Nat.div_lt_iff_lt_mul (Nat.two_pow_pos _)]
    refine Nat.lt_of_lt_of_le hu (Nat.le_of_eq ?_)
    rw [show (4096 : Nat) = 2 ^ 12 by decide, ← Nat.pow_add]
  have hd : d2L y = ((FP.Core.unitsOf FP.Core.b64 y.toNat / 2 ^ 1074 : Nat) : Int) := by
    show (FP.Core.d2l y).toInt = _
    rw [FP.Core.d2l_val (nn_of (by omega)), v]
    have ez : FP.Core.zmag FP.Core.b64 (.fin false c q) = FP.Core.unitsOf FP.Core.b64 y.toNat := z
    rw [ez, e1]
    show max (-2 ^ 63) (min (2 ^ 63 - 1) ((FP.Core.unitsOf FP.Core.b64 y.toNat / 2 ^ 1074 : Nat) : Int)) = _
    generalize FP.Core.unitsOf FP.Core.b64 y.toNat / 2 ^ 1074 = k at hk ⊢
    omega
  have hl := l2d_units (k := d2L y) (by omega) (by omega)
  have gl := (l2d_gD (k := d2L y) (by omega) ⟨by omega, by omega⟩).1
  have il : (FP.l2d (kL (d2L y))).toNat < 9218868437227405312 := by rcases gl with h | ⟨h, h'⟩ <;> omega
  obtain ⟨cl, ql, vl, zl⟩ := pos_fin il
  obtain ⟨c', q', w1, w2⟩ := FP.Core.drem_exact (a := y) (b := FP.dconst1) v fp_one (by decide)
  have w2' : FP.Core.inUnits c' q' FP.Core.b64.qmin = FP.Core.unitsOf FP.Core.b64 y.toNat % 2 ^ 1074 := by
    rw [w2, z]
    unfold FP.Core.inUnits
    rw [fp_q64, show ((-52 : Int) - -1074).toNat = 1022 by decide, show (4503599627370496 : Nat) = 2 ^ 52 by decide, ← Nat.pow_add]
  have hv : FP.Core.val64 (FP.dsub y (FP.l2d (kL (d2L y)))) = .fin false c' q' := by
    obtain ⟨sg, n, e, s1, s2, s3⟩ := FP.Core.sum_units (f := FP.Core.b64) (s := false) (t := true) (c := c) (d := cl) (q := q) (r := ql) (v ▸ FP.Core.val64_fits y) (FP.Core.negate_fits (d := .fin false cl ql) (vl ▸ FP.Core.val64_fits _))
    have hz : FP.Core.zval FP.Core.b64 (.fin false c q) + FP.Core.zval FP.Core.b64 (.fin true cl ql) = (FP.Core.unitsOf FP.Core.b64 y.toNat : Int) - (FP.Core.unitsOf FP.Core.b64 (FP.l2d (kL (d2L y))).toNat : Int) := by
      rw [← z, ← zl]
      rfl
    have hu2 : (FP.Core.unitsOf FP.Core.b64 y.toNat : Int) - (FP.Core.unitsOf FP.Core.b64 (FP.l2d (kL (d2L y))).toNat : Int) = ((FP.Core.unitsOf FP.Core.b64 y.toNat % 2 ^ 1074 : Nat) : Int) := by
      rw [hl, hd, Int.toNat_natCast]
      have := Nat.div_add_mod' (FP.Core.unitsOf FP.Core.b64 y.toNat) (2 ^ 1074)
      generalize FP.Core.unitsOf FP.Core.b64 y.toNat / 2 ^ 1074 * 2 ^ 1074 = A at this ⊢
      generalize FP.Core.unitsOf FP.Core.b64 y.toNat % 2 ^ 1074 = B at this ⊢
      omega
    rw [hz, hu2] at s3
    have hsg : sg = false := by
      have hu3 : FP.Core.sumSign false true (FP.Core.sumUnits false c q true cl ql (min q ql)) = sg := by
        have := s1
        injection this
      have hu4 : (FP.Core.sumUnits false c q true cl ql (min q ql)).natAbs = n ∧ min q ql = e := by
        have := s1
        injection this with _ t1 t2
        exact ⟨t1, t2⟩
      cases hsgc : sg with
      | false => rfl
      | true =>
        rw [hsgc] at s3 hu3
        have s3' : -((FP.Core.inUnits n e FP.Core.b64.qmin : Nat) : Int) = _ := s3
        have n0 : FP.Core.inUnits n e FP.Core.b64.qmin = 0 := by omega
        have n1 : n = 0 := by
          rcases Nat.eq_zero_or_pos n with h9 | h9
          · exact h9
          · exact absurd n0 (Nat.ne_of_gt (Nat.mul_pos h9 (Nat.two_pow_pos _)))
        have n2 : FP.Core.sumUnits false c q true cl ql (min q ql) = 0 := by have := hu4.1; omega
        rw [n2] at hu3
        exact absurd hu3 (by decide)
    subst hsg
    have s4 : FP.Core.inUnits n e FP.Core.b64.qmin = FP.Core.inUnits c' q' FP.Core.b64.qmin := by
      have s3' : ((FP.Core.inUnits n e FP.Core.b64.qmin : Nat) : Int) = _ := s3
      rw [w2']
      omega
    rw [FP.Core.val64_dsub, v, vl]
    show FP.Core.round FP.Core.b64 (FP.Core.exactSum (.fin false c q) (.fin true cl ql)) = _
    rw [s1]
    show FP.Core.roundRatio FP.Core.b64 false n 1 e = _
    have hf := FP.Core.val64_fits (FP.drem y FP.dconst1)
    have w1' : FP.Core.val64 (FP.drem y FP.dconst1) = .fin false c' q' := w1
    rw [w1'] at hf
    have hq' := hf.2.1
    refine FP.Core.roundRatio_exact FP.Core.good_b64 (by decide) hf ?_
    unfold FP.Core.inUnits at s4
    rw [fp_q64] at s4 hq' s2
    rw [Nat.mul_one]
    by_cases ce : q' ≤ e
    · rw [show (e - -1074).toNat = (e - q').toNat + (q' - -1074).toNat by omega, Nat.pow_add, ← Nat.mul_assoc] at s4
      rw [show (q' - e).toNat = 0 by omega, Nat.pow_zero, Nat.mul_one]
      exact Nat.eq_of_mul_eq_mul_right (Nat.two_pow_pos _) s4
    · rw [show (q' - -1074).toNat = (q' - e).toNat + (e - -1074).toNat by omega, Nat.pow_add, ← Nat.mul_assoc] at s4
      rw [show (e - q').toNat = 0 by omega, Nat.pow_zero, Nat.mul_one]
      exact Nat.eq_of_mul_eq_mul_right (Nat.two_pow_pos _) s4
  have w1' : FP.Core.val64 (FP.drem y FP.dconst1) = .fin false c' q' := w1
  refine ⟨FP.Core.val64_inj (by rw [hv]; exact FP.Core.Datum.noConfusion) (by rw [hv, w1']), ?_⟩
  have hnn : FP.Core.val64 (FP.drem y FP.dconst1) ≠ .nan := by rw [w1']; exact FP.Core.Datum.noConfusion
  have hs := fp_pos hnn (by rw [w1']; rfl)
  have zb := FP.Core.zmag_bits hnn
  rw [w1', Nat.mod_eq_of_lt (show (FP.drem y FP.dconst1).toNat < 2 ^ 63 by omega)] at zb
  have zb' : FP.Core.unitsOf FP.Core.b64 (FP.drem y FP.dconst1).toNat = FP.Core.unitsOf FP.Core.b64 y.toNat % 2 ^ 1074 := by rw [← zb]; exact w2'
  have hub : FP.Core.unitsOf FP.Core.b64 (FP.drem y FP.dconst1).toNat < 2 ^ (52 + (1023 - 1)) := by
    rw [zb']; exact Nat.mod_lt _ (Nat.two_pow_pos _)
  rw [← us64 (by decide)] at hub
  have hlt := FP.Core.unitsOf_lt_iff.mp hub
  have dv : ∃ w, FP.Core.unitsOf FP.Core.b64 y.toNat = w * 2 ^ 966 := by
    rcases h with h | ⟨h, -⟩
    · exact ⟨0, by rw [h, FP.Core.unitsOf_zero, Nat.zero_mul]⟩
    · exact us_div (K := 967) (by decide) h
  obtain ⟨w, hw⟩ := mod_div (P := 1074) dv (by decide)
  rw [hw] at zb'
  refine gD.z (lo := 915) (hi := 1023) ?_ (by decide) (by decide)
  rcases Nat.eq_zero_or_pos w with h9 | h9
  · rw [h9, Nat.zero_mul] at zb'
    exact Or.inl (FP.Core.unitsOf_eq_zero.mp zb')
  · refine Or.inr ⟨?_, hlt⟩
    refine (FP.Core.unitsOf_le_iff (f := FP.Core.b64)).mp ?_
    rw [us64 (by decide), zb']
    show 2 ^ 966 ≤ w * 2 ^ 966
    exact Nat.le_mul_of_pos_left _ h9
