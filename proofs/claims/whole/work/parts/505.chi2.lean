/-! chi, both -/
def chS (G B st I : Int → Int) (T n0 : Int) : Nat → UInt64
  | 0 => FP.dconst0
  | n + 1 => FP.dadd (chS G B st I T n0 n) (cq (I (n : Int)) (qd (bC G B st (n : Int) * T) n0))
section
variable {N : Nat} {g b : Int → Int}
theorem ch_q (ok : okP g b) {st : Int → Int} {m T n0 : Int} (hb : Bd (cn g b) st m) (hT : 1 ≤ T ∧ T ≤ 11880) (hn : 1 ≤ n0 ∧ n0 ≤ 11880) {k : Int} (k0 : 0 ≤ k) (k1 : k < m) : (1 ≤ bC (cG g b) (cB g b) st k * T ∧ bC (cG g b) (cB g b) st k * T ≤ 141134400) ∧ gD 958 1089 (qd (bC (cG g b) (cB g b) st k * T) n0) ∧ ¬ (qd (bC (cG g b) (cB g b) st k * T) n0).toNat = 0 := by
  obtain ⟨b1, b2, b3⟩ := hb.c ok k0 k1
  have m1 := mul_bd (a := bC (cG g b) (cB g b) st k) (b := T) (A := 11880) (B := 11880) (by omega) (by omega)
  have m2 : 0 < bC (cG g b) (cB g b) st k * T := Int.mul_pos b3.1 (by omega)
  exact ⟨by omega, qd_g (by omega) hn.1 ⟨by omega, by omega⟩ ⟨by omega, by omega⟩, qd_pos (by omega) hn.1 ⟨by omega, by omega⟩ ⟨by omega, by omega⟩⟩
theorem ch_g (ok : okP g b) {st I : Int → Int} {m T n0 : Int} (hb : Bd (cn g b) st m) (hT : 1 ≤ T ∧ T ≤ 11880) (hn : 1 ≤ n0 ∧ n0 ≤ 11880) (hI : ∀ k, 0 ≤ I k ∧ I k ≤ 11880) : ∀ n : Nat, (n : Int) ≤ m → gD 723 (1226 + 2 * n) (chS (cG g b) (cB g b) st I T n0 n) := by
  have ok2 := ok.2.1
  have hm := hb.1
  intro n
  induction n with
  | zero => intro _; exact Or.inl dk0
  | succ n ih =>
    intro h
    have h1 := ih (by omega)
    obtain ⟨-, e1, e2⟩ := ch_q ok hb hT hn (k := (n : Int)) (by omega) (by omega)
    have h2 := (cq_ok (hI (n : Int)) e1 e2).2.2.mono (lo' := 723) (hi' := 1226 + 2 * n) (by decide) (by omega)
    have h3 := dadd_gD h1 h2 (by decide) (show 1226 + 2 * n ≤ 2047 by omega)
    exact h3.mono (Nat.le_refl _) (by omega)
theorem ch_z (ok : okP g b) {st I : Int → Int} {m T n0 : Int} (hb : Bd (cn g b) st m) (hT : 1 ≤ T ∧ T ≤ 11880) (hn : 1 ≤ n0 ∧ n0 ≤ 11880) (hI : ∀ k, 0 ≤ I k ∧ I k ≤ 11880) (n : Nat) (h : (n : Int) ≤ m) : gZ (chS (cG g b) (cB g b) st I T n0 n) := by
  have ok2 := ok.2.1
  have hm := hb.1
  exact (ch_g ok hb hT hn hI n h).z (by decide) (by omega)
end
section
variable {N : Nat} {g b stt : Int → Int} {le mo sp run run' : Int} {sd rz pz bz : Int} {rsc rgo rba rgA rbA ple pgr pgo pba pri ble bgr bgo bba bri : Int → Int} {rsc' rgo' rba' rgA' rbA' ple' pgr' pgo' pba' pri' ble' bgr' bgo' bba' bri' : Int → Int} {z1 z2 : Int} {s1 s2 s3 s4 : Int → Int}
variable {S : SM} {la : Nat} {samp q : Int → Int}
set_option maxHeartbeats 2000000 in
theorem chi_c (hN : 40000 ≤ N) (ok : okP g b) {st I : Int → Int} {m T n0 : Int} (hb : Bd (cn g b) st m) (h : Lad (cs g b) (cG g b) (cB g b) st m ble bgr bgo bba bri) (hA : AhA g b rgA rbA) (hz : bz = m) (hrz : rz = cn g b) (hT : 1 ≤ T ∧ T ≤ 11880) (hn : 1 ≤ n0 ∧ n0 ≤ 11880) (hI : ∀ k, 0 ≤ I k ∧ I k ≤ 11880) (hla : S.1 la = true) (hTe : smTotal S la = T) (hne : cG g b (cn g b) + cB g b (cn g b) = n0) (hq : ∀ k, 0 ≤ k → k < 60 → q k = I k) : ∀ (f : Nat) (y1 : UInt64) (y3 : Int), 0 ≤ y3 → y3 ≤ m → y1 = chS (cG g b) (cB g b) st I T n0 y3.toNat → (m - y3).toNat < f → m_X12_chi_b40 N S la le mo g b sp sd rz rsc rgo rba rgA rbA pz ple pgr pgo pba pri bz ble bgr bgo bba bri q run f y1 y3 = some (dB (chS (cG g b) (cB g b) st I T n0 m.toNat), sd, rz, rsc, rgo, rba, rgA, rbA, pz, ple, pgr, pgo, pba, pri, bz, ble, bgr, bgo, bba, bri, q, run) := by
  have ok2 := ok.2.1
  have hm := hb.1
  subst hrz
  intro f
  induction f with
  | zero => intro y1 y3 _ _ _ h; omega
  | succ f ih =>
    intro y1 y3 h0 h1 h2 hf
    rw [m_X12_chi_b40]
    by_cases c : m ≤ y3
    · have e : y3 = m := by omega
      subst e
      rw [h2]
      refine gd_ok (by first | omega | (constructor <;> omega) | assumption) ?_
      refine gd_ok (by first | omega | (constructor <;> omega) | assumption) ?_
      refine ip_ok (by first | omega | (constructor <;> omega) | assumption) ?_
      refine bd_ok (db_ok hN (ch_z ok hb hT hn hI _ (by omega))) ?_
      rfl
    · obtain ⟨p1, p2, p3⟩ := ch_q ok hb hT hn h0 (by omega)
      have b1 := hb.c ok h0 (by omega)
      obtain ⟨n1, n2, n3⟩ := cq_ok (hI y3) p2 p3
      have eq := quo_ok (N := N) (x := bC (cG g b) (cB g b) st y3 * T) (y := n0) (by omega) hn.1 ⟨by omega, by omega⟩ ⟨by omega, by omega⟩
      have e3 : chS (cG g b) (cB g b) st I T n0 (y3 + 1).toNat = FP.dadd y1 (cq (I y3) (qd (bC (cG g b) (cB g b) st y3 * T) n0)) := by
        rw [show (y3 + 1).toNat = y3.toNat + 1 by omega, chS, h2, show ((y3.toNat : Nat) : Int) = y3 by omega]
      have hk : dcV (qd (bC (cG g b) (cB g b) st y3 * T) n0) FP.dconst0 .l = if (qd (bC (cG g b) (cB g b) st y3 * T) n0).toNat < FP.dconst0.toNat then -1 else if (qd (bC (cG g b) (cB g b) st y3 * T) n0).toNat = FP.dconst0.toNat then 0 else 1 := dcV_key (p2.z (by decide) (by decide)).le (by rw [dk0]; decide)
      rw [dk0, if_neg (Nat.not_lt_zero _), if_neg p3] at hk
      have hq' := hq y3 h0 (by omega)
      have rc := rcases_ok (N := N) ok hA
      rw [hne] at rc
      refine gd_ok (by first | omega | (constructor <;> omega) | assumption) ?_
      refine gd_ok (by first | omega | (constructor <;> omega) | assumption) ?_
      refine in_ok (by first | omega | (constructor <;> omega) | assumption) ?_
      refine gd_ok (by first | omega | (constructor <;> omega) | assumption) ?_
      refine bd_ok (casesC ok hb h h0 (by omega)) ?_
      refine gd_ok (by first | omega | (constructor <;> omega) | assumption) ?_
      refine gd_ok hla ?_
      rw [hTe]
      refine gd_ok (by first | omega | (constructor <;> omega) | assumption) ?_
      refine bd_ok (rc) ?_
      refine gd_ok (by first | omega | (constructor <;> omega) | assumption) ?_
      refine bd_ok (eq) ?_
      rw [hk, hq']
      refine in_ok (by decide) (gd_ok n1 (gd_ok n2 (gd_ok (n3.z (by decide) (by decide)).nn (gd_ok ?_ ?_))))
      · show n64 (FP.dadd y1 (cq (I y3) (qd (bC (cG g b) (cB g b) st y3 * T) n0)))
        rw [← e3]; exact (ch_z ok hb hT hn hI _ (by omega)).nn
      · rw [m_X12_chi_b115]
        exact ih _ (y3 + 1) (by omega) (by omega) e3.symm (by omega)
set_option maxHeartbeats 2000000 in
theorem chi_r (hN : 40000 ≤ N) (ok : okP g b) {sc go ba st' st I : Int → Int} {m T n0 : Int} (hr : RwA g b sc go ba) (hb : Bd (cn g b) st m) (hs : SA st' st m) (hT : 1 ≤ T ∧ T ≤ 11880) (hn : 1 ≤ n0 ∧ n0 ≤ 11880) (hI : ∀ k, 0 ≤ I k ∧ I k ≤ 11880) (hin : ∀ k, 0 ≤ k → k < m → m_X13_inBand_s N m samp sc st' 0 k = some (I k)) : ∀ (f : Nat) (y1 : UInt64) (y3 : Int), 0 ≤ y3 → y3 ≤ m → y1 = chS (cG g b) (cB g b) st I T n0 y3.toNat → (m - y3).toNat < f → Rt (m_X13_chi_b47 N stt samp z1 m sc go ba st' n0 T f y1 y3) (dB (chS (cG g b) (cB g b) st I T n0 m.toNat)) := by
  have ok2 := ok.2.1
  have hm := hb.1
  intro f
  induction f with
  | zero => intro y1 y3 _ _ _ h; omega
  | succ f ih =>
    intro y1 y3 h0 h1 h2 hf
    rw [m_X13_chi_b47]
    by_cases c : m ≤ y3
    · have e : y3 = m := by omega
      subst e
      rw [h2]
      refine Rt.gd (by first | omega | (constructor <;> omega) | assumption) ?_
      refine Rt.gd (by first | omega | (constructor <;> omega) | assumption) ?_
      refine Rt.ip (by first | omega | (constructor <;> omega) | assumption) ?_
      refine Rt.bd (rb_ok (ch_z ok hb hT hn hI _ (by omega))) ?_
      exact Rt.so
    · obtain ⟨p1, p2, p3⟩ := ch_q ok hb hT hn h0 (by omega)
      obtain ⟨n1, n2, n3⟩ := cq_ok (hI y3) p2 p3
      have e3 : chS (cG g b) (cB g b) st I T n0 (y3 + 1).toNat = FP.dadd y1 (cq (I y3) (qd (bC (cG g b) (cB g b) st y3 * T) n0)) := by
        rw [show (y3 + 1).toNat = y3.toNat + 1 by omega, chS, h2, show ((y3.toNat : Nat) : Int) = y3 by omega]
      refine Rt.gd (by first | omega | (constructor <;> omega) | assumption) ?_
      refine Rt.gd (by first | omega | (constructor <;> omega) | assumption) ?_
      refine Rt.in_ (by first | omega | (constructor <;> omega) | assumption) ?_
      refine Rt.bd (hin y3 h0 (by omega)) ?_
      refine Rt.bd (ofBand2 hN ok hr hb hs h0 (by omega)) ?_
      refine Rt.gd (p2.z (by decide) (by decide)).nn (Rt.gd n1 (Rt.gd n2 (Rt.gd (n3.z (by decide) (by decide)).nn (Rt.gd ?_ ?_))))
      · show n64 (FP.dadd y1 (cq (I y3) (qd (bC (cG g b) (cB g b) st y3 * T) n0)))
        rw [← e3]; exact (ch_z ok hb hT hn hI _ (by omega)).nn
      · exact ih _ (y3 + 1) (by omega) (by omega) e3.symm (by omega)
set_option maxHeartbeats 2000000 in
theorem q_chi (hN : 40000 ≤ N) (ok : okP g b) (hle : 0 ≤ le ∧ le ≤ 9999) (hmo : 1 ≤ mo ∧ mo ≤ 60) (hset : m_X12_settle N le mo g b sp sd rz rsc rgo rba rgA rbA pz ple pgr pgo pba pri bz ble bgr bgo bba bri run = some (1, cn g b, rsc', rgo', rba', rgA', rbA', pmm g b, ple', pgr', pgo', pba', pri', bmm g b le mo, ble', bgr', bgo', bba', bri', run')) (hS : Stl g b le mo rsc' rgo' rba' rgA' rbA' ple' pgr' pgo' pba' pri' ble' bgr' bgo' bba' bri') (hst : StA stt g b) (h3 : stt 3201 = le ∧ stt 3202 = mo) (hsm : SmR S la samp 0) : AnsQ (m_X12_chi N S la le mo g b sp sd rz rsc rgo rba rgA rbA pz ple pgr pgo pba pri bz ble bgr bgo bba bri q run) (m_X13_chi N stt samp z1 z2 s1 s2 s3 s4) (fun q => (1, cn g b, rsc', rgo', rba', rgA', rbA', pmm g b, ple', pgr', pgo', pba', pri', bmm g b le mo, ble', bgr', bgo', bba', bri', q, run')) (fun q => (sd, rz, rsc, rgo, rba, rgA, rbA, pz, ple, pgr, pgo, pba, pri, bz, ble, bgr, bgo, bba, bri, q, run)) := by
  obtain ⟨sc1, go1, ba1, ar1, lb1, hr, hsa, hb⟩ := laysB (z1 := z1) (z2 := z2) (s1 := s1) (s2 := s2) (s3 := s3) (s4 := s4) hN ok hle hmo hst h3
  obtain ⟨hn, hbm, hpm⟩ := le_mo ok hle hmo
  obtain ⟨S1, S2, S3, S4⟩ := hS
  have h1 := hsm.1
  have t := hsm.tot
  have ok2 := ok.2.1
  have gb := cG_b ok (i := cn g b) hn.1 (Int.le_refl _)
  have r2 := of02 hN ok hr (x2 := cn g b) hn.1 (Int.le_refl _)
  have r3 := casesOf_ok (N := N) hN (n := 1000) ⟨by decide, by decide⟩ hsm
  rw [m_X12_chi, m_X13_chi]
  by_cases z : cn g b = 0
  · have e0 : cG g b (cn g b) + cB g b (cn g b) = 0 := by rw [z]; rfl
    refine ⟨-9223372036854775808, q, Or.inl ?_, ?_⟩
    · refine bd_ok (hset) ?_
      dsimp only
      refine gd_ok (by first | omega | (constructor <;> omega) | assumption) ?_
      refine ip_ok (by first | omega | (constructor <;> omega) | assumption) ?_
      rfl
    · refine Rt.bd (lb1) ?_
      dsimp only
      refine Rt.bd (r2) ?_
      refine Rt.bd (r3) ?_
      refine Rt.gd (by first | omega | (constructor <;> omega) | assumption) ?_
      refine Rt.gd (by first | omega | (constructor <;> omega) | assumption) ?_
      refine Rt.ip (e0) ?_
      exact Rt.so
  · have cp := C_pos ok (by omega)
    by_cases y : smTotal S la = 0
    · refine ⟨-9223372036854775808, q, Or.inl ?_, ?_⟩
      · refine bd_ok (hset) ?_
        dsimp only
        refine gd_ok (by first | omega | (constructor <;> omega) | assumption) ?_
        refine in_ok (by first | omega | (constructor <;> omega) | assumption) ?_
        refine gd_ok h1 ?_
        refine gd_ok (by first | omega | (constructor <;> omega) | assumption) ?_
        refine ip_ok (y) ?_
        rfl
      · refine Rt.bd (lb1) ?_
        dsimp only
        refine Rt.bd (r2) ?_
        refine Rt.bd (r3) ?_
        refine Rt.gd (by first | omega | (constructor <;> omega) | assumption) ?_
        refine Rt.gd (by first | omega | (constructor <;> omega) | assumption) ?_
        refine Rt.in_ (by first | omega | (constructor <;> omega) | assumption) ?_
        refine Rt.gd (by first | omega | (constructor <;> omega) | assumption) ?_
        refine Rt.ip (y) ?_
        exact Rt.so
    · obtain ⟨q', sq, hq⟩ := spreadOf_ok (N := N) hN ok hb S4 hsm (q := q)
      have hI := inb_in hsm (cs g b) (bst g b le mo) (bmm g b le mo)
      refine ⟨dB (chS (cG g b) (cB g b) (bst g b le mo) (inb (cs g b) (bst g b le mo) (bmm g b le mo) S la) (smTotal S la) (cG g b (cn g b) + cB g b (cn g b)) (bmm g b le mo).toNat), q', Or.inl ?_, ?_⟩
      · refine bd_ok (hset) ?_
        dsimp only
        refine gd_ok (by first | omega | (constructor <;> omega) | assumption) ?_
        refine in_ok (by first | omega | (constructor <;> omega) | assumption) ?_
        refine gd_ok h1 ?_
        refine gd_ok (by first | omega | (constructor <;> omega) | assumption) ?_
        refine in_ok (y) ?_
        refine bd_ok (sq) ?_
        exact chi_c hN ok hb S4 S2 rfl rfl (by omega) (by omega) hI h1 rfl rfl hq N FP.dconst0 0 (by decide) (by omega) rfl (by omega)
      · refine Rt.bd (lb1) ?_
        dsimp only
        refine Rt.bd (r2) ?_
        refine Rt.bd (r3) ?_
        refine Rt.gd (by first | omega | (constructor <;> omega) | assumption) ?_
        refine Rt.gd (by first | omega | (constructor <;> omega) | assumption) ?_
        refine Rt.in_ (by first | omega | (constructor <;> omega) | assumption) ?_
        refine Rt.gd (by first | omega | (constructor <;> omega) | assumption) ?_
        refine Rt.in_ (y) ?_
        exact chi_r hN ok hr hb hsa (by omega) (by omega) hI (fun k k0 k1 => inBand_s_ok hN ok hr hb hsa hsm ⟨by decide, by decide⟩ ⟨by omega, by omega⟩) N FP.dconst0 0 (by decide) (by omega) rfl (by omega)
end
