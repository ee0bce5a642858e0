/-! chi: squares of differences, over what is due -/
theorem kI_64 {k : Int} (h : rI k) : (kI k).toInt64 = kL k := by
  apply Int64.toInt.inj
  rw [Int32.toInt_toInt64, kI_toInt h, kL_toInt (rI_L h)]
theorem i2d_eq {k : Int} (h : rI k) : FP.i2d (kI k) = FP.l2d (kL k) := by
  show FP.Core.i2d (kI k) = FP.Core.l2d (kL k)
  rw [FP.Core.i2d_l2d, kI_64 h]
theorem qd_pos {x y : Int} (hx : 1 ≤ x) (hy : 1 ≤ y) (rx : rL x) (ry : rL y) : ¬ (qd x y).toNat = 0 := by
  obtain ⟨g1, n1⟩ := l2d_gD (k := x) (by omega) rx
  obtain ⟨g2, n2⟩ := l2d_gD (k := y) (by omega) ry
  obtain ⟨ea, ta, da, a1, a2⟩ := g1.dN (n1 hx) (by decide) (by decide)
  obtain ⟨eb, tb, db, b1, b2⟩ := g2.dN (n2 hy) (by decide) (by decide)
  have := (ddiv_lo da db (by omega) (by omega)).2
  intro h
  have h' : (FP.ddiv (FP.l2d (kL x)) (FP.l2d (kL y))).toNat = 0 := h
  rw [h'] at this
  have hp : 1 * 4503599627370496 ≤ (ea + 1022 - eb) * 4503599627370496 := Nat.mul_le_mul_right _ (by omega)
  omega
theorem us_div {m K : Nat} (hK : 1 ≤ K) (h : K * 4503599627370496 ≤ m) : ∃ z, FP.Core.unitsOf FP.Core.b64 m = z * 2 ^ (K - 1) := by
  unfold FP.Core.unitsOf
  rw [fp_t64, if_neg (by omega)]
  refine ⟨(4503599627370496 + m % 4503599627370496) * 2 ^ (m / 4503599627370496 - 1 - (K - 1)), ?_⟩
  rw [Nat.mul_assoc, ← Nat.pow_add]
  congr 2
  have : K ≤ m / 4503599627370496 := (Nat.le_div_iff_mul_le (by decide)).mpr h
  omega
theorem pos_fin {a : UInt64} (h : a.toNat < 9218868437227405312) : ∃ c q, FP.Core.val64 a = .fin false c q ∧ FP.Core.inUnits c q FP.Core.b64.qmin = FP.Core.unitsOf FP.Core.b64 a.toNat := by
  obtain ⟨s, c, q, v⟩ := (FP.Core.fin_bits a).mpr (by omega)
  have z := FP.Core.zmag_bits (nn_of (x := a) (by omega))
  have g := FP.Core.sgn_bits (nn_of (x := a) (by omega))
  rw [v] at z g
  rw [Nat.mod_eq_of_lt (show a.toNat < 2 ^ 63 by omega)] at z
  have g' : s = false := by
    have : s = decide (2 ^ 63 ≤ a.toNat) := g
    rw [this, decide_eq_false_iff_not]; omega
  subst g'
  exact ⟨c, q, v, z⟩
def gS (lo hi : Nat) (x : UInt64) : Prop := x.toNat % 9223372036854775808 = 0 ∨ (lo * 4503599627370496 ≤ x.toNat % 9223372036854775808 ∧ x.toNat % 9223372036854775808 < hi * 4503599627370496)
theorem le_inf {K : Nat} (h : K ≤ 2047) : K * 4503599627370496 ≤ FP.Core.infBits FP.Core.b64 := by
  rw [FP.Core.infBits_b64]
  exact Nat.le_trans (Nat.mul_le_mul_right 4503599627370496 h) (by decide)
theorem dsub_gS {a b : UInt64} {lo hi : Nat} (h1 : gD lo hi a) (h2 : gD lo hi b) (c1 : 53 ≤ lo) (c2 : hi ≤ 2047) (c3 : 1 ≤ hi) (c4 : lo ≤ 2047) : gS (lo - 52) (hi + 2) (FP.dsub a b) ∧ FP.Core.val64 (FP.dsub a b) ≠ .nan := by
  have ia : a.toNat < 9218868437227405312 := by rcases h1 with h | ⟨h, h'⟩ <;> omega
  have ib : b.toNat < 9218868437227405312 := by rcases h2 with h | ⟨h, h'⟩ <;> omega
  obtain ⟨xa, qa, va, za⟩ := pos_fin ia
  obtain ⟨xb, qb, vb, zb⟩ := pos_fin ib
  obtain ⟨sg, n, e, s1, s2, s3⟩ := FP.Core.sum_units (f := FP.Core.b64) (s := false) (t := true) (c := xa) (d := xb) (q := qa) (r := qb) (va ▸ FP.Core.val64_fits a) (FP.Core.negate_fits (d := .fin false xb qb) (vb ▸ FP.Core.val64_fits b))
  have hz : FP.Core.zval FP.Core.b64 (.fin false xa qa) + FP.Core.zval FP.Core.b64 (.fin true xb qb) = (FP.Core.unitsOf FP.Core.b64 a.toNat : Int) - (FP.Core.unitsOf FP.Core.b64 b.toNat : Int) := by
    rw [← za, ← zb]
    rfl
  rw [hz] at s3
  have hv : FP.Core.val64 (FP.dsub a b) = FP.Core.roundRatio FP.Core.b64 sg n 1 e := by
    rw [FP.Core.val64_dsub, va, vb]
    show FP.Core.round FP.Core.b64 (FP.Core.exactSum (.fin false xa qa) (.fin true xb qb)) = _
    rw [s1]
    rfl
  have hnn : FP.Core.val64 (FP.dsub a b) ≠ .nan := by rw [hv]; exact FP.Core.roundRatio_ne_nan _ _ _ _ _
  refine ⟨?_, hnn⟩
  have e3 : (2 : Nat) ^ 52 = 4503599627370496 := by decide
  have e63 : (2 : Nat) ^ 63 = 9223372036854775808 := by decide
  have u := FP.Core.dsub_mag (a := a) (b := b) (K := hi) (by rw [e3, e63]; rcases h1 with h | ⟨h, h'⟩ <;> omega) (by rw [e3, e63]; rcases h2 with h | ⟨h, h'⟩ <;> omega) c2
  rw [e3, e63] at u
  have hs4 : FP.Core.inUnits n e FP.Core.b64.qmin = ((FP.Core.unitsOf FP.Core.b64 a.toNat : Int) - (FP.Core.unitsOf FP.Core.b64 b.toNat : Int)).natAbs := by
    rw [← s3, FP.Core.natAbs_signed]
  have da : ∃ z, FP.Core.unitsOf FP.Core.b64 a.toNat = z * 2 ^ (lo - 1) := by
    rcases h1 with h | ⟨h, -⟩
    · exact ⟨0, by rw [h, FP.Core.unitsOf_zero, Nat.zero_mul]⟩
    · exact us_div (by omega) h
  have db : ∃ z, FP.Core.unitsOf FP.Core.b64 b.toNat = z * 2 ^ (lo - 1) := by
    rcases h2 with h | ⟨h, -⟩
    · exact ⟨0, by rw [h, FP.Core.unitsOf_zero, Nat.zero_mul]⟩
    · exact us_div (by omega) h
  obtain ⟨wa, ea⟩ := da
  obtain ⟨wb, eb⟩ := db
  by_cases c : FP.Core.unitsOf FP.Core.b64 a.toNat = FP.Core.unitsOf FP.Core.b64 b.toNat
  · refine Or.inl ?_
    rw [c, Int.sub_self] at hs4
    have hn : n = 0 := by
      rcases Nat.eq_zero_or_pos n with h | h
      · exact h
      · exact absurd hs4 (Nat.ne_of_gt (Nat.mul_pos h (Nat.two_pow_pos _)))
    rw [hn] at hv
    have hz0 : FP.Core.DZero (FP.dsub a b) := ⟨sg, FP.Core.b64.qmin, by rw [hv]; rfl⟩
    have := (FP.Core.zero_bits2 _).mp hz0
    rw [e63] at this
    exact this
  · refine Or.inr ⟨?_, u⟩
    have hm := FP.Core.mag_ge FP.Core.good_b64 (n := (FP.dsub a b).toNat) (m := (lo - 52) * 4503599627370496) (e0 := FP.Core.b64.qmin) hv (by decide) (Int.le_refl _) s2 (le_inf (by omega)) ?_
    · rw [FP.Core.mag_toNat64, e63] at hm
      exact hm
    · rw [hs4, Int.sub_self, Int.toNat_zero, Nat.pow_zero, Nat.mul_one, Nat.mul_one, us64 (by omega), ea, eb, show 52 + (lo - 52 - 1) = lo - 1 by omega]
      rw [ea, eb] at c
      generalize 2 ^ (lo - 1) = P at c ⊢
      have hc : wa ≠ wb := fun h => c (by rw [h])
      rcases Nat.lt_or_gt_of_ne hc with h | h
      · have : (wa + 1) * P ≤ wb * P := Nat.mul_le_mul_right _ h
        rw [Nat.add_mul] at this
        omega
      · have : (wb + 1) * P ≤ wa * P := Nat.mul_le_mul_right _ h
        rw [Nat.add_mul] at this
        omega
theorem sq_gD {d : UInt64} {lo hi : Nat} (h : gS lo hi d) (hn : FP.Core.val64 d ≠ .nan) (c1 : 512 ≤ lo) (c2 : hi ≤ 1500) (c3 : 600 ≤ hi) (c4 : lo ≤ 1500) : gD (lo + lo - 1023) (hi + hi - 1022) (FP.dmul d d) := by
  have e3 : (2 : Nat) ^ 52 = 4503599627370496 := by decide
  have e63 : (2 : Nat) ^ 63 = 9223372036854775808 := by decide
  have hm : d.toNat % 9223372036854775808 < 9218868437227405312 := by rcases h with h | ⟨h, h'⟩ <;> omega
  obtain ⟨s, c, q, v⟩ := (FP.Core.fin_bits d).mpr (by rw [e63]; exact hm)
  have z := FP.Core.zmag_bits hn
  rw [v, e63] at z
  have hf := v ▸ FP.Core.val64_fits d
  obtain ⟨p1, p2, p3⟩ := FP.Core.product_units (f := FP.Core.b64) hf hf
  have hv : FP.Core.val64 (FP.dmul d d) = FP.Core.roundRatio FP.Core.b64 false (c * c) 1 (q + q) := by
    rw [FP.Core.val64_dmul, v, p1]
    have : (s != s) = false := by cases s <;> rfl
    rw [this]
    rfl
  have hs : (FP.dmul d d).toNat < 9223372036854775808 := by
    refine fp_pos (by rw [hv]; exact FP.Core.roundRatio_ne_nan _ _ _ _ _) ?_
    rw [hv]
    exact FP.Core.sgn_roundRatio _ _ _ _ _
  rw [z] at p3
  rcases h with h | ⟨h, h'⟩
  · refine Or.inl ?_
    rw [h, FP.Core.unitsOf_zero] at p3
    have hc : c * c = 0 := by
      rcases Nat.eq_zero_or_pos (c * c) with h9 | h9
      · exact h9
      · exact absurd p3 (Nat.ne_of_gt (Nat.mul_pos h9 (Nat.two_pow_pos _)))
    rw [hc] at hv
    have hz0 : FP.Core.DZero (FP.dmul d d) := ⟨false, FP.Core.b64.qmin, by rw [hv]; rfl⟩
    have := (FP.Core.zero_bits2 _).mp hz0
    omega
  · have u := FP.Core.dmul_mag (a := d) (b := d) (Ka := hi) (Kb := hi) (by rw [e3, e63]; exact h') (by rw [e3, e63]; exact h') (by omega) (by omega)
    have em : (FP.Core.dmul d d).toNat % 2 ^ 63 = (FP.dmul d d).toNat := Nat.mod_eq_of_lt (by rw [e63]; exact hs)
    rw [em, e3] at u
    refine Or.inr ⟨?_, Nat.lt_of_lt_of_le u (Nat.mul_le_mul_right _ (by omega))⟩
    have hg := FP.Core.mag_ge FP.Core.good_b64 (n := (FP.dmul d d).toNat) (m := (lo + lo - 1023) * 4503599627370496) (e0 := 2 * FP.Core.b64.qmin) hv (by decide) (by rw [fp_q64]; decide) p2 (le_inf (by omega)) ?_
    · rw [FP.Core.mag_toNat64, e63, Nat.mod_eq_of_lt hs] at hg
      exact hg
    · rw [p3, us64 (by omega), fp_q64, show ((-1074 : Int) - 2 * -1074).toNat = 1074 by decide, Nat.mul_one]
      have l1 : 2 ^ (52 + (lo - 1)) ≤ FP.Core.unitsOf FP.Core.b64 (d.toNat % 9223372036854775808) := by
        rw [← us64 (by omega)]
        exact FP.Core.unitsOf_le_iff.mpr h
      refine Nat.le_trans (Nat.le_of_eq ?_) (Nat.mul_le_mul l1 l1)
      rw [← Nat.pow_add, ← Nat.pow_add]
      exact congrArg (2 ^ ·) (by omega)
/-- one band's part of chi -/
def cq (k : Int) (e : UInt64) : UInt64 := FP.ddiv (FP.dmul (FP.dsub (FP.i2d (kI k)) e) (FP.dsub (FP.i2d (kI k)) e)) e
theorem cq_ok {k : Int} {e : UInt64} (hk : 0 ≤ k ∧ k ≤ 11880) (he : gD 958 1089 e) (h0 : ¬ e.toNat = 0) : n64 (FP.dsub (FP.i2d (kI k)) e) ∧ n64 (FP.dmul (FP.dsub (FP.i2d (kI k)) e) (FP.dsub (FP.i2d (kI k)) e)) ∧ gD 723 1226 (cq k e) := by
  have ho : gD 958 1089 (FP.i2d (kI k)) := by
    rw [i2d_eq ⟨by omega, by omega⟩]
    exact (l2d_gD hk.1 ⟨by omega, by omega⟩).1.mono (by decide) (by decide)
  obtain ⟨s1, s2⟩ := dsub_gS ho he (by decide) (by decide) (by decide) (by decide)
  have s3 := sq_gD s1 s2 (by decide) (by decide) (by decide) (by decide)
  refine ⟨n64_of s2, (s3.z (by decide) (by decide)).nn, ?_⟩
  have := ddiv_gD s3 he h0 (by decide) (by decide) (by decide) (by decide) (by decide) (by decide) (by decide)
  exact this.mono (by decide) (by decide)
