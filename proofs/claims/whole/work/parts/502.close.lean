/-! sums, products and quotients of such doubles -/
def gD (lo hi : Nat) (x : UInt64) : Prop := x.toNat = 0 ∨ (lo * 4503599627370496 ≤ x.toNat ∧ x.toNat < hi * 4503599627370496)
theorem gD.z {lo hi : Nat} {x : UInt64} (h : gD lo hi x) (h1 : 1 ≤ lo) (h2 : hi ≤ 2047) : gZ x := by
  rcases h with h | ⟨a, b⟩
  · exact Or.inl h
  · exact Or.inr ⟨x.toNat / 4503599627370496, x.toNat % 4503599627370496, by omega, by omega, by omega, by omega⟩
theorem gD.mono {lo hi lo' hi' : Nat} {x : UInt64} (h : gD lo hi x) (h1 : lo' ≤ lo) (h2 : hi ≤ hi') : gD lo' hi' x := by
  rcases h with h | ⟨a, b⟩
  · exact Or.inl h
  · exact Or.inr ⟨Nat.le_trans (Nat.mul_le_mul_right _ h1) a, Nat.lt_of_lt_of_le b (Nat.mul_le_mul_right _ h2)⟩
theorem gD.dN {lo hi : Nat} {x : UInt64} (h : gD lo hi x) (h0 : ¬ x.toNat = 0) (h1 : 1 ≤ lo) (h2 : hi ≤ 2047) : ∃ e t, dN x e t ∧ lo ≤ e ∧ e < hi := by
  rcases h with h | ⟨a, b⟩
  · exact absurd h h0
  · exact ⟨x.toNat / 4503599627370496, x.toNat % 4503599627370496, ⟨by omega, by omega, by omega, by omega⟩, by omega, by omega⟩
theorem fp_pos {x : UInt64} (h : FP.Core.val64 x ≠ .nan) (hs : FP.Core.sgn (FP.Core.val64 x) = false) : x.toNat < 9223372036854775808 := by
  have := FP.Core.sgn_bits h
  rw [hs] at this
  have := of_decide_eq_false this.symm
  omega
theorem eq_zero {x : UInt64} (h : x.toNat = 0) : x = 0 := UInt64.toNat.inj h
theorem us64 {K : Nat} (h : 1 ≤ K) : FP.Core.unitsOf FP.Core.b64 (K * 4503599627370496) = 2 ^ (52 + (K - 1)) := by
  have := FP.Core.unitsOf_start (f := FP.Core.b64) h
  rw [fp_t64] at this
  rw [this, Nat.pow_add]
theorem l2d_gD {k : Int} (hk : 0 ≤ k) (hr : rL k) : gD 1023 1088 (FP.l2d (kL k)) ∧ (1 ≤ k → ¬ (FP.l2d (kL k)).toNat = 0) := by
  have e := kL_toInt hr
  have hs : (FP.l2d (kL k)).toNat < 9223372036854775808 := by
    obtain ⟨c, q, h⟩ := FP.Core.l2d_shape (kL k)
    refine fp_pos ?_ ?_
    · show FP.Core.val64 (FP.Core.l2d (kL k)) ≠ _
      rw [h]; exact FP.Core.Datum.noConfusion
    · show FP.Core.sgn (FP.Core.val64 (FP.Core.l2d (kL k))) = _
      rw [h]
      show decide ((kL k).toInt < 0) = false
      rw [e, decide_eq_false_iff_not]; omega
  by_cases c : k = 0
  · refine ⟨Or.inl ?_, fun h => by omega⟩
    rw [c]
    show (FP.Core.l2d 0).toNat = 0
    rw [FP.Core.l2d_zero]
    rfl
  · have b1 := FP.Core.l2d_big (v := kL k) (by rw [e]; exact c)
    have b2 := FP.Core.l2d_mag (kL k)
    have hs' : (FP.Core.l2d (kL k)).toNat < 9223372036854775808 := hs
    refine ⟨Or.inr ⟨?_, ?_⟩, fun _ => ?_⟩
    · show _ ≤ (FP.Core.l2d (kL k)).toNat; omega
    · show (FP.Core.l2d (kL k)).toNat < _; omega
    · show ¬ (FP.Core.l2d (kL k)).toNat = 0; omega
theorem pw_le {A B m n x1 x2 y : Nat} (hB : B ≤ 2 ^ m) (hA : 2 ^ n ≤ A) (h : x1 + x2 + m ≤ n + y) : 2 ^ x1 * 2 ^ x2 * B ≤ A * 2 ^ y :=
  calc 2 ^ x1 * 2 ^ x2 * B ≤ 2 ^ x1 * 2 ^ x2 * 2 ^ m := Nat.mul_le_mul_left _ hB
    _ = 2 ^ (x1 + x2 + m) := by rw [Nat.pow_add, Nat.pow_add]
    _ ≤ 2 ^ (n + y) := Nat.pow_le_pow_right (by decide) h
    _ = 2 ^ n * 2 ^ y := Nat.pow_add ..
    _ ≤ A * 2 ^ y := Nat.mul_le_mul_right _ hA
theorem p53 {t : Nat} (h : t ≤ 9007199254740992) : t ≤ 2 ^ 53 := by
  have : (2 : Nat) ^ 53 = 9007199254740992 := by decide
  omega
theorem p52 {t : Nat} (h : 4503599627370496 ≤ t) : 2 ^ 52 ≤ t := by
  have : (2 : Nat) ^ 52 = 4503599627370496 := by decide
  omega
theorem ddiv_lo {a b : UInt64} {ea ta eb tb : Nat} (ha : dN a ea ta) (hb : dN b eb tb) (h : eb < ea + 1022) (h9 : ea ≤ eb + 1024) : (FP.ddiv a b).toNat < 9223372036854775808 ∧ (ea + 1022 - eb) * 4503599627370496 ≤ (FP.ddiv a b).toNat := by
  have va := dN_val ha
  have vb := dN_val hb
  obtain ⟨a1, a2, a3, a4⟩ := ha
  obtain ⟨b1, b2, b3, b4⟩ := hb
  have hq : FP.Core.val64 (FP.ddiv a b) = FP.Core.roundRatio FP.Core.b64 (false != false) (4503599627370496 + ta) (4503599627370496 + tb) ((ea : Int) - 1075 - ((eb : Int) - 1075)) := by
    rw [FP.Core.val64_ddiv, va, vb, fp_quot (by omega)]
  have hs : (FP.ddiv a b).toNat < 9223372036854775808 := by
    refine fp_pos (by rw [hq]; exact FP.Core.roundRatio_ne_nan _ _ _ _ _) ?_
    rw [hq]
    exact FP.Core.sgn_roundRatio _ _ _ _ _
  refine ⟨hs, ?_⟩
  have hm := FP.Core.mag_ge FP.Core.good_b64 (n := (FP.ddiv a b).toNat) (m := (ea + 1022 - eb) * 4503599627370496) (e0 := -4000) hq (by omega) (by rw [fp_q64]; decide) (by omega) (by rw [FP.Core.infBits_b64]; omega) ?_
  · rw [FP.Core.mag_toNat64] at hm
    omega
  · rw [us64 (by omega), fp_q64]
    unfold FP.Core.inUnits
    rw [show ((-1074 : Int) - -4000).toNat = 2926 by decide]
    exact pw_le (p53 (by omega)) (p52 (by omega)) (by omega)
theorem ddiv_gD {a b : UInt64} {la ha lb hb : Nat} (h1 : gD la ha a) (h2 : gD lb hb b) (hz : ¬ b.toNat = 0) (c1 : 1 ≤ la) (c2 : ha ≤ 2047) (c3 : 1 ≤ lb) (c4 : hb ≤ 2047) (c5 : hb ≤ la + 1022) (c6 : ha ≤ lb + 1024) (c7 : lb ≤ ha + 1021) : gD (la + 1023 - hb) (ha + 1024 - lb) (FP.ddiv a b) := by
  obtain ⟨eb, tb, db, b1, b2⟩ := h2.dN hz c3 c4
  by_cases c : a.toNat = 0
  · refine Or.inl ?_
    rw [eq_zero c]
    have e : FP.Core.val64 (FP.ddiv 0 b) = FP.Core.val64 0 := by
      rw [FP.Core.val64_ddiv, dN_val db, FP.Core.val64_zero, fp_quot (by have := db.2.1; omega)]
      rfl
    rw [FP.Core.val64_inj (by rw [e, FP.Core.val64_zero]; exact FP.Core.Datum.noConfusion) e]
    rfl
  · obtain ⟨ea, ta, da, a1, a2⟩ := h1.dN c c1 c2
    obtain ⟨s, l⟩ := ddiv_lo da db (by omega) (by omega)
    obtain ⟨x1, x2, x3, x4⟩ := da
    obtain ⟨y1, y2, y3, y4⟩ := db
    have e3 : (2 : Nat) ^ 52 = 4503599627370496 := by decide
    have p1 := h1.resolve_left c
    have p2 := h2.resolve_left hz
    have ea' : a.toNat % 2 ^ 63 = a.toNat := Nat.mod_eq_of_lt (by omega)
    have eb' : b.toNat % 2 ^ 63 = b.toNat := Nat.mod_eq_of_lt (by omega)
    have u := FP.Core.ddiv_mag (a := a) (b := b) (K := ha) (L := lb) (by rw [ea', e3]; exact p1.2) (by rw [eb', e3]; exact p2.1) (by rw [eb', e3]; exact Nat.lt_of_lt_of_le p2.2 (Nat.mul_le_mul_right _ c4)) c2 c3
    refine Or.inr ⟨Nat.le_trans (Nat.mul_le_mul_right _ (by omega)) l, ?_⟩
    have e : (FP.ddiv a b).toNat % 2 ^ 63 = (FP.ddiv a b).toNat := Nat.mod_eq_of_lt s
    have e2 : (FP.Core.ddiv a b).toNat % 2 ^ 63 = (FP.ddiv a b).toNat := e
    rw [e2] at u
    refine Nat.lt_of_lt_of_le u ?_
    rw [e3]
    exact Nat.mul_le_mul_right _ (by omega)
/-- a quotient of whole numbers -/
theorem quo_gD {x y : Int} (hx : 0 ≤ x) (hy : 1 ≤ y) (rx : rL x) (ry : rL y) : gD 958 1089 (FP.ddiv (FP.l2d (kL x)) (FP.l2d (kL y))) := by
  obtain ⟨g1, -⟩ := l2d_gD hx rx
  obtain ⟨g2, n2⟩ := l2d_gD (k := y) (by omega) ry
  have h := ddiv_gD g1 g2 (n2 hy) (by decide) (by decide) (by decide) (by decide) (by decide) (by decide) (by decide)
  exact h.mono (by decide) (by decide)
theorem dadd_gD {a b : UInt64} {lo hi : Nat} (h1 : gD lo hi a) (h2 : gD lo hi b) (c1 : 1 ≤ lo) (c2 : hi ≤ 2047) : gD lo (hi + 2) (FP.dadd a b) := by
  by_cases ca : a.toNat = 0 ∧ b.toNat = 0
  · refine Or.inl ?_
    rw [eq_zero ca.1, eq_zero ca.2]
    decide +kernel
  · have la := (h1.z c1 c2).le
    have lb := (h2.z c1 c2).le
    have ia : a.toNat < 9218868437227405312 := by rcases h1 with h | ⟨h, h'⟩ <;> omega
    have ib : b.toNat < 9218868437227405312 := by rcases h2 with h | ⟨h, h'⟩ <;> omega
    obtain ⟨sa, xa, qa, va⟩ := (FP.Core.fin_bits a).mpr (by omega)
    obtain ⟨sb, xb, qb, vb⟩ := (FP.Core.fin_bits b).mpr (by omega)
    have za := FP.Core.zmag_bits (nn_of la)
    have zb := FP.Core.zmag_bits (nn_of lb)
    have ga := FP.Core.sgn_bits (nn_of la)
    have gb := FP.Core.sgn_bits (nn_of lb)
    rw [va] at za ga
    rw [vb] at zb gb
    have ea : a.toNat % 2 ^ 63 = a.toNat := Nat.mod_eq_of_lt (by omega)
    have eb : b.toNat % 2 ^ 63 = b.toNat := Nat.mod_eq_of_lt (by omega)
    rw [ea] at za
    rw [eb] at zb
    have ga' : sa = false := by
      have : sa = decide (2 ^ 63 ≤ a.toNat) := ga
      rw [this, decide_eq_false_iff_not]; omega
    have gb' : sb = false := by
      have : sb = decide (2 ^ 63 ≤ b.toNat) := gb
      rw [this, decide_eq_false_iff_not]; omega
    subst ga'; subst gb'
    obtain ⟨sg, n, e, s1, s2, s3⟩ := FP.Core.sum_units (f := FP.Core.b64) (va ▸ FP.Core.val64_fits a) (vb ▸ FP.Core.val64_fits b)
    have hz : FP.Core.zval FP.Core.b64 (.fin false xa qa) + FP.Core.zval FP.Core.b64 (.fin false xb qb) = ((FP.Core.unitsOf FP.Core.b64 a.toNat + FP.Core.unitsOf FP.Core.b64 b.toNat : Nat) : Int) := by
      rw [← za, ← zb]
      rfl
    rw [hz] at s3
    have hsg : sg = false := by
      have hu : FP.Core.sumSign false false (FP.Core.sumUnits false xa qa false xb qb (min qa qb)) = sg := by
        have := s1
        injection this
      rw [← hu]
      unfold FP.Core.sumSign
      by_cases c : FP.Core.sumUnits false xa qa false xb qb (min qa qb) = 0
      · rw [if_pos c]; rfl
      · rw [if_neg c, decide_eq_false_iff_not]
        have : FP.Core.sumUnits false xa qa false xb qb (min qa qb) = ((FP.Core.inUnits xa qa (min qa qb) + FP.Core.inUnits xb qb (min qa qb) : Nat) : Int) := rfl
        omega
    subst hsg
    have s4 : FP.Core.inUnits n e FP.Core.b64.qmin = FP.Core.unitsOf FP.Core.b64 a.toNat + FP.Core.unitsOf FP.Core.b64 b.toNat := by
      have : (FP.Core.inUnits n e FP.Core.b64.qmin : Int) = _ := s3
      omega
    have hv : FP.Core.val64 (FP.dadd a b) = FP.Core.roundRatio FP.Core.b64 false n 1 e := by
      rw [FP.Core.val64_dadd, va, vb, s1]
      rfl
    have hs : (FP.dadd a b).toNat < 9223372036854775808 := by
      refine fp_pos (by rw [hv]; exact FP.Core.roundRatio_ne_nan _ _ _ _ _) ?_
      rw [hv]
      exact FP.Core.sgn_roundRatio _ _ _ _ _
    have em : (FP.Core.dadd a b).toNat % 2 ^ 63 = (FP.dadd a b).toNat := Nat.mod_eq_of_lt hs
    have e3 : (2 : Nat) ^ 52 = 4503599627370496 := by decide
    have hi0 : 1 ≤ hi := by rcases h1 with h | ⟨h, h'⟩ <;> rcases h2 with g | ⟨g, g'⟩ <;> omega
    have u := FP.Core.dadd_mag (a := a) (b := b) (K := hi) (by rw [ea, e3]; rcases h1 with h | ⟨h, h'⟩ <;> omega) (by rw [eb, e3]; rcases h2 with h | ⟨h, h'⟩ <;> omega) c2
    rw [em, e3] at u
    refine Or.inr ⟨?_, u⟩
    have hm := FP.Core.mag_ge FP.Core.good_b64 (n := (FP.dadd a b).toNat) (m := lo * 4503599627370496) (e0 := FP.Core.b64.qmin) hv (by decide) (Int.le_refl _) s2 (by rw [FP.Core.infBits_b64]; rcases h1 with h | ⟨h, h'⟩ <;> rcases h2 with g | ⟨g, g'⟩ <;> omega) ?_
    · rw [FP.Core.mag_toNat64] at hm
      rw [em] at hm
      exact hm
    · rw [s4, Int.sub_self, Int.toNat_zero, Nat.pow_zero, Nat.mul_one, Nat.mul_one]
      rcases h1 with h | ⟨h, h'⟩
      · rcases h2 with g | ⟨g, g'⟩
        · exact absurd ⟨h, g⟩ ca
        · exact Nat.le_trans (FP.Core.unitsOf_le_iff.mpr g) (Nat.le_add_left _ _)
      · exact Nat.le_trans (FP.Core.unitsOf_le_iff.mpr h) (Nat.le_add_right _ _)
