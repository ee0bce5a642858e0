/-! rates: at most 1; thousandths and what is left of them -/
theorem mul_gD {a b : UInt64} {la ha lb hb : Nat} (h1 : gD la ha a) (h2 : gD lb hb b) (c1 : 512 ≤ la) (c2 : ha ≤ 1500) (c3 : 512 ≤ lb) (c4 : hb ≤ 1500) (c5 : la ≤ 1500) (c6 : lb ≤ 1500) (c7 : 600 ≤ ha) (c8 : 600 ≤ hb) : gD (la + lb - 1023) (ha + hb - 1022) (FP.dmul a b) := by
  have e3 : (2 : Nat) ^ 52 = 4503599627370496 := by decide
  have e63 : (2 : Nat) ^ 63 = 9223372036854775808 := by decide
  have ia : a.toNat < 9218868437227405312 := by rcases h1 with h | ⟨h, h'⟩ <;> omega
  have ib : b.toNat < 9218868437227405312 := by rcases h2 with h | ⟨h, h'⟩ <;> omega
  obtain ⟨xa, qa, va, za⟩ := pos_fin ia
  obtain ⟨xb, qb, vb, zb⟩ := pos_fin ib
  have za' : FP.Core.zmag FP.Core.b64 (.fin false xa qa) = FP.Core.unitsOf FP.Core.b64 a.toNat := za
  have zb' : FP.Core.zmag FP.Core.b64 (.fin false xb qb) = FP.Core.unitsOf FP.Core.b64 b.toNat := zb
  obtain ⟨p1, p2, p3⟩ := FP.Core.product_units (f := FP.Core.b64) (va ▸ FP.Core.val64_fits a) (vb ▸ FP.Core.val64_fits b)
  have hv : FP.Core.val64 (FP.dmul a b) = FP.Core.roundRatio FP.Core.b64 false (xa * xb) 1 (qa + qb) := by
    rw [FP.Core.val64_dmul, va, vb, p1]
    rfl
  have hs : (FP.dmul a b).toNat < 9223372036854775808 := by
    refine fp_pos (by rw [hv]; exact FP.Core.roundRatio_ne_nan _ _ _ _ _) ?_
    rw [hv]
    exact FP.Core.sgn_roundRatio _ _ _ _ _
  rw [za', zb'] at p3
  have zero : FP.Core.unitsOf FP.Core.b64 a.toNat * FP.Core.unitsOf FP.Core.b64 b.toNat = 0 → (FP.dmul a b).toNat = 0 := fun h => by
    rw [h] at p3
    have hc : xa * xb = 0 := by
      rcases Nat.eq_zero_or_pos (xa * xb) with h9 | h9
      · exact h9
      · exact absurd p3 (Nat.ne_of_gt (Nat.mul_pos h9 (Nat.two_pow_pos _)))
    rw [hc] at hv
    have hz0 : FP.Core.DZero (FP.dmul a b) := ⟨false, FP.Core.b64.qmin, by rw [hv]; rfl⟩
    have := (FP.Core.zero_bits2 _).mp hz0
    omega
  rcases h1 with h | ⟨h, h'⟩
  · exact Or.inl (zero (by rw [h, FP.Core.unitsOf_zero, Nat.zero_mul]))
  · rcases h2 with k | ⟨k, k'⟩
    · exact Or.inl (zero (by rw [k, FP.Core.unitsOf_zero, Nat.mul_zero]))
    · have u := FP.Core.dmul_mag (a := a) (b := b) (Ka := ha) (Kb := hb) (by rw [e3, e63, Nat.mod_eq_of_lt (by omega)]; exact h') (by rw [e3, e63, Nat.mod_eq_of_lt (by omega)]; exact k') (by omega) (by omega)
      have em : (FP.Core.dmul a b).toNat % 2 ^ 63 = (FP.dmul a b).toNat := Nat.mod_eq_of_lt (by rw [e63]; exact hs)
      rw [em, e3] at u
      refine Or.inr ⟨?_, Nat.lt_of_lt_of_le u (Nat.mul_le_mul_right _ (by omega))⟩
      have hg := FP.Core.mag_ge FP.Core.good_b64 (n := (FP.dmul a b).toNat) (m := (la + lb - 1023) * 4503599627370496) (e0 := 2 * FP.Core.b64.qmin) hv (by decide) (by rw [fp_q64]; decide) p2 (le_inf (by omega)) ?_
      · rw [FP.Core.mag_toNat64, e63, Nat.mod_eq_of_lt hs] at hg
        exact hg
      · rw [p3, us64 (by omega), fp_q64, show ((-1074 : Int) - 2 * -1074).toNat = 1074 by decide, Nat.mul_one]
        have l1 : 2 ^ (52 + (la - 1)) ≤ FP.Core.unitsOf FP.Core.b64 a.toNat := by
          rw [← us64 (by omega)]
          exact FP.Core.unitsOf_le_iff.mpr h
        have l2 : 2 ^ (52 + (lb - 1)) ≤ FP.Core.unitsOf FP.Core.b64 b.toNat := by
          rw [← us64 (by omega)]
          exact FP.Core.unitsOf_le_iff.mpr k
        refine Nat.le_trans (Nat.le_of_eq ?_) (Nat.mul_le_mul l1 l2)
        rw [← Nat.pow_add, ← Nat.pow_add]
        exact congrArg (2 ^ ·) (by omega)
theorem l2d_units {k : Int} (hk : 0 ≤ k) (h : k ≤ 9007199254740992) : FP.Core.unitsOf FP.Core.b64 (FP.l2d (kL k)).toNat = k.toNat * 2 ^ 1074 := by
  have hr : rL k := ⟨by omega, by omega⟩
  have e := kL_toInt hr
  have g := (l2d_gD hk hr).1
  have ia : (FP.l2d (kL k)).toNat < 9218868437227405312 := by rcases g with h | ⟨h, h'⟩ <;> omega
  obtain ⟨c, q, v, z⟩ := pos_fin ia
  have di : FP.Core.DInt k (FP.l2d (kL k)) := by
    have := FP.Core.l2d_int (a := kL k) (by rw [e]; exact Nat.le_trans (show k.natAbs ≤ 9007199254740992 by omega) (by decide))
    rw [e] at this
    exact this
  have dz := FP.Core.DInt_zval di
  rw [v] at dz
  have dz' : ((FP.Core.inUnits c q FP.Core.b64.qmin : Nat) : Int) = k * (FP.Core.one64 : Int) := dz
  rw [z] at dz'
  have e1 : (FP.Core.one64 : Nat) = 2 ^ 1074 := rfl
  rw [e1] at dz'
  have : ((FP.Core.unitsOf FP.Core.b64 (FP.l2d (kL k)).toNat : Nat) : Int) = ((k.toNat * 2 ^ 1074 : Nat) : Int) := by
    rw [dz', Int.natCast_mul, Int.toNat_of_nonneg hk]
  exact Int.ofNat.inj this
