theorem us32 {K : Nat} (h : 1 ≤ K) : FP.Core.unitsOf FP.Core.b32 (K * 8388608) = 2 ^ (23 + (K - 1)) := by
  have := FP.Core.unitsOf_start (f := FP.Core.b32) h
  rw [fp_t32] at this
  rw [this, Nat.pow_add]
theorem d2f_fZ {x : UInt64} (h : gD 958 1089 x) (hle : x.toNat ≤ 4607182418800017408) : fZ (FP.d2f x) := by
  by_cases c0 : x.toNat = 0
  · rw [eq_zero c0]
    exact Or.inl (by decide +kernel)
  · have hl := (h.resolve_left c0).1
    obtain ⟨c, q, v, z⟩ := pos_fin (a := x) (by omega)
    have hd : FP.d2f x = FP.Core.d2f x := by
      unfold FP.d2f
      rw [if_neg]
      rw [FP.Core.dIsNaN_iff]
      exact nn_of (by omega)
    have hv : FP.Core.val32 (FP.d2f x) = FP.Core.roundRatio FP.Core.b32 false c 1 q := by
      rw [hd, FP.Core.val32_d2f, v]
      rfl
    have hf := FP.Core.val64_fits x
    rw [v] at hf
    have hq := hf.2.1
    rw [fp_q64] at hq z
    have hs : (FP.d2f x).toNat < 2147483648 := by
      have hn : FP.Core.val32 (FP.d2f x) ≠ .nan := by rw [hv]; exact FP.Core.roundRatio_ne_nan _ _ _ _ _
      have g := FP.Core.sgn_bits32 hn
      rw [hv, FP.Core.sgn_roundRatio] at g
      have := of_decide_eq_false g.symm
      omega
    have e31 : (2 : Nat) ^ 31 = 2147483648 := by decide
    have m1 := FP.Core.mag_le FP.Core.good_b32 (n := (FP.d2f x).toNat) (m := 127 * 8388608) (e0 := -1074) hv (by decide) (by rw [fp_q32]; decide) hq ?_
    · have m2 := FP.Core.mag_ge FP.Core.good_b32 (n := (FP.d2f x).toNat) (m := 60 * 8388608) (e0 := -1074) hv (by decide) (by rw [fp_q32]; decide) hq (by rw [FP.Core.infBits_b32]; decide) ?_
      · rw [FP.Core.mag_toNat32, e31, Nat.mod_eq_of_lt hs] at m1 m2
        exact Or.inr ⟨(FP.d2f x).toNat / 8388608, (FP.d2f x).toNat % 8388608, ⟨by omega, by omega, by omega, by omega⟩, by omega⟩
      · rw [z, us32 (by decide), fp_q32, show ((-149 : Int) - -1074).toNat = 925 by decide, Nat.mul_one, ← Nat.pow_add]
        refine Nat.le_trans ?_ (FP.Core.unitsOf_le_iff.mpr hl)
        rw [us64 (by decide)]
        exact Nat.pow_le_pow_right (by decide) (by decide)
    · rw [z, us32 (by decide), fp_q32, show ((-149 : Int) - -1074).toNat = 925 by decide, Nat.mul_one, ← Nat.pow_add]
      refine Nat.le_trans (FP.Core.unitsOf_le_iff.mpr (show x.toNat ≤ 1023 * 4503599627370496 by omega)) ?_
      rw [us64 (by decide)]
      exact Nat.pow_le_pow_right (by decide) (by decide)
theorem thou_g {x : UInt64} (h : gD 958 1089 x) (hle : x.toNat ≤ 4607182418800017408) : gD 967 1035 (FP.dmul 4652007308841189376 x) := by
  have h1 : gD 1032 1033 (4652007308841189376 : UInt64) := Or.inr ⟨by decide, by decide⟩
  have h2 : gD 958 1024 x := by
    rcases h with h | ⟨a, b⟩
    · exact Or.inl h
    · exact Or.inr ⟨a, by omega⟩
  have := mul_gD h1 h2 (by decide) (by decide) (by decide) (by decide) (by decide) (by decide) (by decide) (by decide)
  exact this.mono (by decide) (by decide)
section
variable {N : Nat} {g b stt : Int → Int} {le mo sp run run' : Int} {sd rz pz bz : Int} {rsc rgo rba rgA rbA ple pgr pgo pba pri ble bgr bgo bba bri : Int → Int} {rsc' rgo' rba' rgA' rbA' ple' pgr' pgo' pba' pri' ble' bgr' bgo' bba' bri' : Int → Int} {z1 z2 : Int} {s1 s2 s3 s4 : Int → Int}
set_option maxHeartbeats 2000000 in
theorem q_rate (hN : 40000 ≤ N) (ok : okP g b) (hle : 0 ≤ le ∧ le ≤ 9999) (hmo : 1 ≤ mo ∧ mo ≤ 60) (hset : m_X12_settle N le mo g b sp sd rz rsc rgo rba rgA rbA pz ple pgr pgo pba pri bz ble bgr bgo bba bri run = some (1, cn g b, rsc', rgo', rba', rgA', rbA', pmm g b, ple', pgr', pgo', pba', pri', bmm g b le mo, ble', bgr', bgo', bba', bri', run')) (hS : Stl g b le mo rsc' rgo' rba' rgA' rbA' ple' pgr' pgo' pba' pri' ble' bgr' bgo' bba' bri') (hst : StA stt g b) (h3 : stt 3201 = le ∧ stt 3202 = mo) {x1 x2 : Int} (hx1 : rI x1) (hx2 : rI x2) : Ans (m_X12_rate N le mo g b sp sd rz rsc rgo rba rgA rbA pz ple pgr pgo pba pri bz ble bgr bgo bba bri run x1 x2) (m_X13_rate N stt z1 z2 s1 s2 s3 s4 x1 x2) (1, cn g b, rsc', rgo', rba', rgA', rbA', pmm g b, ple', pgr', pgo', pba', pri', bmm g b le mo, ble', bgr', bgo', bba', bri', run') (sd, rz, rsc, rgo, rba, rgA, rbA, pz, ple, pgr, pgo, pba, pri, bz, ble, bgr, bgo, bba, bri, run) := by
  obtain ⟨sc1, go1, ba1, ar1, lb1, hr, hsa, hb⟩ := laysB (z1 := z1) (z2 := z2) (s1 := s1) (s2 := s2) (s3 := s3) (s4 := s4) hN ok hle hmo hst h3
  obtain ⟨hn, hbm, hpm⟩ := le_mo ok hle hmo
  obtain ⟨S1, S2, S3, S4⟩ := hS
  rw [m_X12_rate, m_X13_rate]
  by_cases c : 0 ≤ x1 ∧ x1 < bmm g b le mo
  · obtain ⟨b1, b2, b3⟩ := hb.c ok c.1 c.2
    have eL := (S4.c ok hb c.1 c.2).2
    have eC := casesC (N := N) ok hb S4 c.1 c.2
    have hle1 : bG (cB g b) (bst g b le mo) x1 ≤ bC (cG g b) (cB g b) (bst g b le mo) x1 := by
      show _ ≤ bG (cG g b) (bst g b le mo) x1 + bG (cB g b) (bst g b le mo) x1
      omega
    have gx := qd_g (x := bG (cB g b) (bst g b le mo) x1) (y := bC (cG g b) (cB g b) (bst g b le mo) x1) b1.1 (by omega) ⟨by omega, by omega⟩ ⟨by omega, by omega⟩
    have l1 := qd_le1 b1.1 hle1 (by omega)
    have gq := quo_ok (N := N) (x := bG (cB g b) (bst g b le mo) x1) (y := bC (cG g b) (cB g b) (bst g b le mo) x1) b1.1 (by omega) ⟨by omega, by omega⟩ ⟨by omega, by omega⟩
    have gq' : m_X5_quotient N (bba' x1) (bC (cG g b) (cB g b) (bst g b le mo) x1) = some (qd (bG (cB g b) (bst g b le mo) x1) (bC (cG g b) (cB g b) (bst g b le mo) x1)) := by rw [eL]; exact gq
    have zx : gZ (qd (bG (cB g b) (bst g b le mo) x1) (bC (cG g b) (cB g b) (bst g b le mo) x1)) := gx.z (by decide) (by decide)
    have gy := thou_g gx l1
    have zy := gy.z (by decide) (by decide)
    have fx := d2f_fZ gx l1
    obtain ⟨fr1, fr2⟩ := frac_ok gy
    have i1 := in1 (N := N) (rI_L hx1) ⟨by decide, by decide⟩ (show rL (bmm g b le mo - 1) from ⟨by omega, by omega⟩) ⟨c.1, by omega⟩
    have o1 := ofBand1 hN ok hr hb hsa c.1 c.2
    have o2 : m_X13_ofBand N go1 ba1 ar1 x1 2 = some (bC (cG g b) (cB g b) (bst g b le mo) x1) := ofBand2 hN ok hr hb hsa c.1 c.2
    have nx : n64 (FP.ddiv (FP.l2d (kL (bG (cB g b) (bst g b le mo) x1))) (FP.l2d (kL (bC (cG g b) (cB g b) (bst g b le mo) x1)))) := zx.nn
    have hfB : rI (fB (FP.d2f (qd (bG (cB g b) (bst g b le mo) x1) (bC (cG g b) (cB g b) (bst g b le mo) x1)))) := by
      have := fx.le
      rw [fB_nat (by omega)]
      constructor <;> omega
    rcases (by omega : x2 = 0 ∨ x2 = 1 ∨ x2 = 2 ∨ x2 = 3 ∨ (x2 < 0 ∨ 3 < x2)) with rfl | rfl | rfl | rfl | d
    · refine ⟨dB (qd (bG (cB g b) (bst g b le mo) x1) (bC (cG g b) (cB g b) (bst g b le mo) x1)), Or.inl ?_, ?_⟩
      · refine bd_ok (hset) ?_
        dsimp only
        refine bd_ok (has1 hx1 ⟨by omega, by omega⟩ c) ?_
        refine gd_ok (by first | omega | (constructor <;> omega) | assumption) ?_
        refine in_ok (by first | omega | (constructor <;> omega) | assumption) ?_
        refine gd_ok (by first | omega | (constructor <;> omega) | assumption) ?_
        refine gd_ok (by first | omega | (constructor <;> omega) | assumption) ?_
        refine bd_ok (eC) ?_
        refine gd_ok (by first | omega | (constructor <;> omega) | assumption) ?_
        refine bd_ok (gq') ?_
        refine gd_ok zy.nn ?_
        refine gd_ok (by first | omega | (constructor <;> omega) | assumption) ?_
        refine ip_ok (by first | omega | (constructor <;> omega) | assumption) ?_
        refine bd_ok (db_ok hN zx) ?_
        rfl
      · refine Rt.bd (lb1) ?_
        dsimp only
        refine Rt.gd (by first | omega | (constructor <;> omega) | assumption) ?_
        refine Rt.gd (by first | omega | (constructor <;> omega) | assumption) ?_
        refine Rt.bd (i1) ?_
        refine Rt.gd (by first | omega | (constructor <;> omega) | assumption) ?_
        refine Rt.in_ (by first | omega | (constructor <;> omega) | assumption) ?_
        refine Rt.gd (by first | omega | (constructor <;> omega) | assumption) ?_
        refine Rt.bd (in1 (rI_L hx2) ⟨by decide, by decide⟩ ⟨by decide, by decide⟩ ⟨by decide, by decide⟩) ?_
        refine Rt.gd (by first | omega | (constructor <;> omega) | assumption) ?_
        refine Rt.in_ (by first | omega | (constructor <;> omega) | assumption) ?_
        refine Rt.bd (o1) ?_
        refine Rt.bd (o2) ?_
        refine Rt.gd nx ?_
        refine Rt.ip (by first | omega | (constructor <;> omega) | assumption) ?_
        refine Rt.bd (rb_ok zx) ?_
        exact Rt.so
    · refine ⟨fB (FP.d2f (qd (bG (cB g b) (bst g b le mo) x1) (bC (cG g b) (cB g b) (bst g b le mo) x1))), Or.inl ?_, ?_⟩
      · refine bd_ok (hset) ?_
        dsimp only
        refine bd_ok (has1 hx1 ⟨by omega, by omega⟩ c) ?_
        refine gd_ok (by first | omega | (constructor <;> omega) | assumption) ?_
        refine in_ok (by first | omega | (constructor <;> omega) | assumption) ?_
        refine gd_ok (by first | omega | (constructor <;> omega) | assumption) ?_
        refine gd_ok (by first | omega | (constructor <;> omega) | assumption) ?_
        refine bd_ok (eC) ?_
        refine gd_ok (by first | omega | (constructor <;> omega) | assumption) ?_
        refine bd_ok (gq') ?_
        refine gd_ok zy.nn ?_
        refine gd_ok (by first | omega | (constructor <;> omega) | assumption) ?_
        refine in_ok (by first | omega | (constructor <;> omega) | assumption) ?_
        refine ip_ok (by first | omega | (constructor <;> omega) | assumption) ?_
        refine gd_ok fx.nn ?_
        refine bd_ok (fb_ok hN fx) ?_
        rfl
      · refine Rt.bd (lb1) ?_
        dsimp only
        refine Rt.gd (by first | omega | (constructor <;> omega) | assumption) ?_
        refine Rt.gd (by first | omega | (constructor <;> omega) | assumption) ?_
        refine Rt.bd (i1) ?_
        refine Rt.gd (by first | omega | (constructor <;> omega) | assumption) ?_
        refine Rt.in_ (by first | omega | (constructor <;> omega) | assumption) ?_
        refine Rt.gd (by first | omega | (constructor <;> omega) | assumption) ?_
        refine Rt.bd (in1 (rI_L hx2) ⟨by decide, by decide⟩ ⟨by decide, by decide⟩ ⟨by decide, by decide⟩) ?_
        refine Rt.gd (by first | omega | (constructor <;> omega) | assumption) ?_
        refine Rt.in_ (by first | omega | (constructor <;> omega) | assumption) ?_
        refine Rt.bd (o1) ?_
        refine Rt.bd (o2) ?_
        refine Rt.gd nx ?_
        refine Rt.in_ (by first | omega | (constructor <;> omega) | assumption) ?_
        refine Rt.ip (by first | omega | (constructor <;> omega) | assumption) ?_
        refine Rt.gd fx.nn (Rt.bd (rfb_ok fx) (Rt.gd hfB ?_))
        exact Rt.so
    · refine ⟨dB (FP.drem (FP.dmul 4652007308841189376 (qd (bG (cB g b) (bst g b le mo) x1) (bC (cG g b) (cB g b) (bst g b le mo) x1))) FP.dconst1), Or.inl ?_, ?_⟩
      · refine bd_ok (hset) ?_
        dsimp only
        refine bd_ok (has1 hx1 ⟨by omega, by omega⟩ c) ?_
        refine gd_ok (by first | omega | (constructor <;> omega) | assumption) ?_
        refine in_ok (by first | omega | (constructor <;> omega) | assumption) ?_
        refine gd_ok (by first | omega | (constructor <;> omega) | assumption) ?_
        refine gd_ok (by first | omega | (constructor <;> omega) | assumption) ?_
        refine bd_ok (eC) ?_
        refine gd_ok (by first | omega | (constructor <;> omega) | assumption) ?_
        refine bd_ok (gq') ?_
        refine gd_ok zy.nn ?_
        refine gd_ok (by first | omega | (constructor <;> omega) | assumption) ?_
        refine in_ok (by first | omega | (constructor <;> omega) | assumption) ?_
        refine in_ok (by first | omega | (constructor <;> omega) | assumption) ?_
        refine ip_ok (by first | omega | (constructor <;> omega) | assumption) ?_
        rw [fr1]
        refine gd_ok fr2.nn ?_
        refine bd_ok (db_ok hN fr2) ?_
        rfl
      · refine Rt.bd (lb1) ?_
        dsimp only
        refine Rt.gd (by first | omega | (constructor <;> omega) | assumption) ?_
        refine Rt.gd (by first | omega | (constructor <;> omega) | assumption) ?_
        refine Rt.bd (i1) ?_
        refine Rt.gd (by first | omega | (constructor <;> omega) | assumption) ?_
        refine Rt.in_ (by first | omega | (constructor <;> omega) | assumption) ?_
        refine Rt.gd (by first | omega | (constructor <;> omega) | assumption) ?_
        refine Rt.bd (in1 (rI_L hx2) ⟨by decide, by decide⟩ ⟨by decide, by decide⟩ ⟨by decide, by decide⟩) ?_
        refine Rt.gd (by first | omega | (constructor <;> omega) | assumption) ?_
        refine Rt.in_ (by first | omega | (constructor <;> omega) | assumption) ?_
        refine Rt.bd (o1) ?_
        refine Rt.bd (o2) ?_
        refine Rt.gd nx ?_
        refine Rt.in_ (by first | omega | (constructor <;> omega) | assumption) ?_
        refine Rt.in_ (by first | omega | (constructor <;> omega) | assumption) ?_
        refine Rt.ip (by first | omega | (constructor <;> omega) | assumption) ?_
        refine Rt.gd zy.nn (Rt.gd fr2.nn (Rt.bd (rb_ok fr2) ?_))
        exact Rt.so
    · refine ⟨d2L (FP.dmul 4652007308841189376 (qd (bG (cB g b) (bst g b le mo) x1) (bC (cG g b) (cB g b) (bst g b le mo) x1))), Or.inl ?_, ?_⟩
      · refine bd_ok (hset) ?_
        dsimp only
        refine bd_ok (has1 hx1 ⟨by omega, by omega⟩ c) ?_
        refine gd_ok (by first | omega | (constructor <;> omega) | assumption) ?_
        refine in_ok (by first | omega | (constructor <;> omega) | assumption) ?_
        refine gd_ok (by first | omega | (constructor <;> omega) | assumption) ?_
        refine gd_ok (by first | omega | (constructor <;> omega) | assumption) ?_
        refine bd_ok (eC) ?_
        refine gd_ok (by first | omega | (constructor <;> omega) | assumption) ?_
        refine bd_ok (gq') ?_
        refine gd_ok zy.nn ?_
        refine gd_ok (by first | omega | (constructor <;> omega) | assumption) ?_
        refine in_ok (by first | omega | (constructor <;> omega) | assumption) ?_
        refine in_ok (by first | omega | (constructor <;> omega) | assumption) ?_
        refine in_ok (by first | omega | (constructor <;> omega) | assumption) ?_
        refine ip_ok (by first | omega | (constructor <;> omega) | assumption) ?_
        rfl
      · refine Rt.bd (lb1) ?_
        dsimp only
        refine Rt.gd (by first | omega | (constructor <;> omega) | assumption) ?_
        refine Rt.gd (by first | omega | (constructor <;> omega) | assumption) ?_
        refine Rt.bd (i1) ?_
        refine Rt.gd (by first | omega | (constructor <;> omega) | assumption) ?_
        refine Rt.in_ (by first | omega | (constructor <;> omega) | assumption) ?_
        refine Rt.gd (by first | omega | (constructor <;> omega) | assumption) ?_
        refine Rt.bd (in1 (rI_L hx2) ⟨by decide, by decide⟩ ⟨by decide, by decide⟩ ⟨by decide, by decide⟩) ?_
        refine Rt.gd (by first | omega | (constructor <;> omega) | assumption) ?_
        refine Rt.in_ (by first | omega | (constructor <;> omega) | assumption) ?_
        refine Rt.bd (o1) ?_
        refine Rt.bd (o2) ?_
        refine Rt.gd nx ?_
        refine Rt.in_ (by first | omega | (constructor <;> omega) | assumption) ?_
        refine Rt.in_ (by first | omega | (constructor <;> omega) | assumption) ?_
        refine Rt.in_ (by first | omega | (constructor <;> omega) | assumption) ?_
        refine Rt.gd zy.nn ?_
        exact Rt.so
    · refine ⟨-9223372036854775808, Or.inl ?_, ?_⟩
      · refine bd_ok (hset) ?_
        dsimp only
        refine bd_ok (has1 hx1 ⟨by omega, by omega⟩ c) ?_
        refine gd_ok (by first | omega | (constructor <;> omega) | assumption) ?_
        refine in_ok (by first | omega | (constructor <;> omega) | assumption) ?_
        refine gd_ok (by first | omega | (constructor <;> omega) | assumption) ?_
        refine gd_ok (by first | omega | (constructor <;> omega) | assumption) ?_
        refine bd_ok (eC) ?_
        refine gd_ok (by first | omega | (constructor <;> omega) | assumption) ?_
        refine bd_ok (gq') ?_
        refine gd_ok zy.nn ?_
        refine gd_ok (by first | omega | (constructor <;> omega) | assumption) ?_
        refine in_ok (by first | omega | (constructor <;> omega) | assumption) ?_
        refine in_ok (by first | omega | (constructor <;> omega) | assumption) ?_
        refine in_ok (by first | omega | (constructor <;> omega) | assumption) ?_
        refine in_ok (by first | omega | (constructor <;> omega) | assumption) ?_
        rfl
      · refine Rt.bd (lb1) ?_
        dsimp only
        refine Rt.gd (by first | omega | (constructor <;> omega) | assumption) ?_
        refine Rt.gd (by first | omega | (constructor <;> omega) | assumption) ?_
        refine Rt.bd (i1) ?_
        refine Rt.gd (by first | omega | (constructor <;> omega) | assumption) ?_
        refine Rt.in_ (by first | omega | (constructor <;> omega) | assumption) ?_
        refine Rt.gd (by first | omega | (constructor <;> omega) | assumption) ?_
        refine Rt.bd (in0 (rI_L hx2) ⟨by decide, by decide⟩ ⟨by decide, by decide⟩ (by omega)) ?_
        refine Rt.gd (by first | omega | (constructor <;> omega) | assumption) ?_
        refine Rt.ip (by first | omega | (constructor <;> omega) | assumption) ?_
        exact Rt.so
  · refine ⟨-9223372036854775808, Or.inl ?_, ?_⟩
    · refine bd_ok (hset) ?_
      dsimp only
      refine bd_ok (has0 hx1 ⟨by omega, by omega⟩ c) ?_
      refine gd_ok (by first | omega | (constructor <;> omega) | assumption) ?_
      refine ip_ok (by first | omega | (constructor <;> omega) | assumption) ?_
      rfl
    · refine Rt.bd (lb1) ?_
      dsimp only
      refine Rt.gd (by first | omega | (constructor <;> omega) | assumption) ?_
      refine Rt.gd (by first | omega | (constructor <;> omega) | assumption) ?_
      refine Rt.bd (in0 (rI_L hx1) ⟨by decide, by decide⟩ ⟨by omega, by omega⟩ (by omega)) ?_
      refine Rt.gd (by first | omega | (constructor <;> omega) | assumption) ?_
      refine Rt.ip (by first | omega | (constructor <;> omega) | assumption) ?_
      exact Rt.so
end
