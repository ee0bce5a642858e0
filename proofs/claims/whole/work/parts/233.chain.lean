/-! acts: the chain of what can be undone -/
def nrm (st : Int → Int) : Int → Int := fun k => if 0 ≤ k ∧ k < 3206 then st k else 0
theorem nrm_eq {p q : Int → Int} (h : ∀ k, 0 ≤ k → k < 3206 → p k = q k) : nrm p = nrm q := by
  funext k
  unfold nrm
  by_cases c : 0 ≤ k ∧ k < 3206
  · rw [if_pos c, if_pos c, h k c.1 c.2]
  · rw [if_neg c, if_neg c]
theorem nrm_at {p : Int → Int} {k : Int} (h0 : 0 ≤ k) (h1 : k < 3206) : nrm p k = p k := if_pos ⟨h0, h1⟩
def cntR (st lb : Int → Int) (act w s : Int) : Int := sI (fun i => if lb i = act ∧ st (3000 + 5 * i) = s ∧ st (3000 + 5 * i + 3) = w then 1 else 0) (st 3200)
/-- before and behind an act, by what the class keeps of it -/
def Link (lb : Int → Int) (iz : Int) (isc iop iba : Int → Int) (k a b c : Int) (p q : Int → Int) : Prop :=
  (k = 1 ∧ (0 ≤ a ∧ a < 1000) ∧ (p a = q a - b ∧ p (1000 + a) = q (1000 + a) - c) ∧ ∀ x, 0 ≤ x → x < 3206 → x ≠ a → x ≠ 1000 + a → p x = q x) ∨
  (k = 2 ∧ (a = 0 ∨ a = 1) ∧ p (3201 + a) = b ∧ ∀ x, 0 ≤ x → x < 3206 → x ≠ 3201 + a → p x = q x) ∨
  (k = 3 ∧ (p 3203 = a ∧ p 3204 = b ∧ p 3205 = c) ∧ ∀ x, 0 ≤ x → x < 3203 → p x = q x) ∨
  (k = 4 ∧ q 3200 = p 3200 + 1 ∧ ∀ x, 0 ≤ x → x < 3206 → x ≠ 3200 → (x < 3000 + 5 * p 3200 ∨ 3000 + 5 * p 3200 + 5 ≤ x) → p x = q x) ∨
  (k = 5 ∧ (0 ≤ a ∧ a < q 3200) ∧ p (3000 + 5 * a + 3) = -1 ∧ ∀ x, 0 ≤ x → x < 3206 → x ≠ 3000 + 5 * a + 3 → p x = q x) ∨
  (k = 6 ∧ 0 < a ∧ (∀ s, 0 ≤ s → s < 1000 → p s = q s - cntR q lb a 0 s ∧ p (1000 + s) = q (1000 + s) - cntR q lb a 1 s ∧ p (2000 + s) = q (2000 + s)) ∧ (∀ x, 3000 ≤ x → x < 3206 → (∀ i, 0 ≤ i → i < q 3200 → x ≠ 3000 + 5 * i + 4) → p x = q x) ∧ ∀ i, 0 ≤ i → i < q 3200 → p (3000 + 5 * i + 4) = if lb i = a then 0 else q (3000 + 5 * i + 4)) ∨
  (k = 7 ∧ ((0 ≤ iz ∧ iz ≤ 60) ∧ ∀ i, 0 ≤ i → i < iz → 0 ≤ isc i ∧ isc i < 1000) ∧ (∀ s, 0 ≤ s → s < 1000 → q (2000 + s) = 0 ∧ p (2000 + s) = oc isc iop iz s ∧ p s = q s - (oc isc iop iz s - oc isc iba iz s) ∧ p (1000 + s) = q (1000 + s) - oc isc iba iz s) ∧ ∀ x, 3000 ≤ x → x < 3206 → p x = q x)
def Sq (kp : Int → Int) (n : Int) (cur : Int → Int) (l : Int) : Int → Int := nrm (if l < n then blk kp l else cur)
theorem Sq_l {kp cur : Int → Int} {n l : Int} (h : l < n) : Sq kp n cur l = nrm (blk kp l) := by unfold Sq; rw [if_pos h]
theorem Sq_n {kp cur : Int → Int} {n l : Int} (h : ¬ l < n) : Sq kp n cur l = nrm cur := by unfold Sq; rw [if_neg h]
def ChR (lb : Int → Int) (iz : Int) (isc iop iba : Int → Int) (ln : Int) (ak a1 a2 a3 : Int → Int) (n : Int) (kp cur : Int → Int) : Prop :=
  (0 ≤ n ∧ n ≤ 10) ∧ (∀ j, 0 ≤ j → j < n → Link lb iz isc iop iba (ak j) (a1 j) (a2 j) (a3 j) (Sq kp n cur j) (Sq kp n cur (j + 1)) ∧ StV (Sq kp n cur j)) ∧ (∀ j l, 0 ≤ j → j < l → l ≤ n → Sq kp n cur j 3200 ≤ Sq kp n cur l 3200) ∧ (∀ j l, 0 ≤ j → j < l → l ≤ n → ak j = 7 → ∀ s, 0 ≤ s → s < 1000 → Sq kp n cur l (2000 + s) = 0) ∧ (∀ j, 0 ≤ j → j < n → ak j = 6 → a1 j ≤ ln) ∧ ∀ j l, 0 ≤ j → j < l → l < n → ak j = 6 → ak l = 6 → a1 j ≠ a1 l
section
variable {lb isc iop iba ak a1 a2 a3 kp cur : Int → Int} {iz ln n : Int}
theorem ChR.zero : ChR lb iz isc iop iba ln ak a1 a2 a3 0 kp cur := ⟨⟨by decide, by decide⟩, fun j j0 j1 => by omega, fun j l j0 j1 j2 => by omega, fun j l j0 j1 j2 => by omega, fun j j0 j1 => by omega, fun j l j0 j1 j2 => by omega⟩
theorem sh_ok {kp' cur' was b1 b2 b3 b4 : Int → Int} {n' v1 v2 v3 v4 : Int} (hn : 0 ≤ n ∧ n ≤ 10) (hk : KpR kp kp' was n n') (hw : ∀ k, 0 ≤ k → k < 3206 → was k = cur k) (r1 : AcR n n' ak b1 v1) (r2 : AcR n n' a1 b2 v2) (r3 : AcR n n' a2 b3 v3) (r4 : AcR n n' a3 b4 v4) : ∃ e, (e = 0 ∨ e = 1) ∧ n' = n + 1 - e ∧ (1 ≤ n' ∧ n' ≤ 10) ∧ (∀ l, 0 ≤ l → l ≤ n' - 1 → Sq kp' n' cur' l = Sq kp n cur (l + e)) ∧ Sq kp' n' cur' n' = nrm cur' ∧ (∀ j, 0 ≤ j → j < n' - 1 → b1 j = ak (j + e) ∧ b2 j = a1 (j + e) ∧ b3 j = a2 (j + e) ∧ b4 j = a3 (j + e)) ∧ b1 (n' - 1) = v1 ∧ b2 (n' - 1) = v2 ∧ b3 (n' - 1) = v3 ∧ b4 (n' - 1) = v4 := by
  by_cases c : n < 10
  · obtain ⟨e1, k1, k2⟩ := hk.1 c
    obtain ⟨-, p1, q1⟩ := r1.1 c
    obtain ⟨-, p2, q2⟩ := r2.1 c
    obtain ⟨-, p3, q3⟩ := r3.1 c
    obtain ⟨-, p4, q4⟩ := r4.1 c
    subst e1
    rw [show n + 1 - 1 = n by omega]
    refine ⟨0, Or.inl rfl, by omega, ⟨by omega, by omega⟩, fun l l0 l1 => ?_, Sq_n (by omega), fun j j0 j1 => ?_, q1, q2, q3, q4⟩
    · rw [Int.add_zero, Sq_l (by omega)]
      by_cases d : l < n
      · rw [Sq_l d]
        exact nrm_eq (fun k k0 k3 => k1 l k l0 d k0 k3)
      · rw [Sq_n d, show l = n by omega]
        exact nrm_eq (fun k k0 k3 => (k2 k k0 k3).trans (hw k k0 k3))
    · rw [Int.add_zero]
      exact ⟨p1 j j0 j1, p2 j j0 j1, p3 j j0 j1, p4 j j0 j1⟩
  · have en : n = 10 := by omega
    subst en
    obtain ⟨e1, k1, k2⟩ := hk.2 rfl
    obtain ⟨-, p1, q1⟩ := r1.2 rfl
    obtain ⟨-, p2, q2⟩ := r2.2 rfl
    obtain ⟨-, p3, q3⟩ := r3.2 rfl
    obtain ⟨-, p4, q4⟩ := r4.2 rfl
    subst e1
    refine ⟨1, Or.inr rfl, by omega, ⟨by omega, by omega⟩, fun l l0 l1 => ?_, Sq_n (by omega), fun j j0 j1 => ?_, q1, q2, q3, q4⟩
    · rw [Sq_l (by omega)]
      by_cases d : l < 9
      · rw [Sq_l (by omega)]
        exact nrm_eq (fun k k0 k3 => k1 l k l0 d k0 k3)
      · rw [Sq_n (by omega), show l = 9 by omega]
        exact nrm_eq (fun k k0 k3 => (k2 k k0 k3).trans (hw k k0 k3))
    · exact ⟨p1 j j0 (by omega), p2 j j0 (by omega), p3 j j0 (by omega), p4 j j0 (by omega)⟩
theorem ChR.push (h : ChR lb iz isc iop iba ln ak a1 a2 a3 n kp cur) (hv : StV cur) {lb' isc' iop' iba' kp' cur' was b1 b2 b3 b4 : Int → Int} {iz' ln' n' v1 v2 v3 v4 : Int} (hk : KpR kp kp' was n n') (hw : ∀ k, 0 ≤ k → k < 3206 → was k = cur k) (r1 : AcR n n' ak b1 v1) (r2 : AcR n n' a1 b2 v2) (r3 : AcR n n' a2 b3 v3) (r4 : AcR n n' a3 b4 v4) (hL : Link lb' iz' isc' iop' iba' v1 v2 v3 v4 (nrm cur) (nrm cur')) (hm : cur 3200 ≤ cur' 3200) (ho : (∃ j, (0 ≤ j ∧ j < n) ∧ ak j = 7) ∨ v1 = 7 → ∀ s, 0 ≤ s → s < 1000 → cur' (2000 + s) = 0) (hl : ln ≤ ln' ∧ (v1 = 6 → ln < v2 ∧ v2 ≤ ln')) (hst : ∀ j, 0 ≤ j → j < n → Link lb iz isc iop iba (ak j) (a1 j) (a2 j) (a3 j) (Sq kp n cur j) (Sq kp n cur (j + 1)) → Link lb' iz' isc' iop' iba' (ak j) (a1 j) (a2 j) (a3 j) (Sq kp n cur j) (Sq kp n cur (j + 1))) : ChR lb' iz' isc' iop' iba' ln' b1 b2 b3 b4 n' kp' cur' := by
  obtain ⟨h0, h1, h2, h3, h4, h5⟩ := h
  obtain ⟨e, he, en, e10, s1, s2, s3, t1, t2, t3, t4⟩ := sh_ok (cur' := cur') h0 hk hw r1 r2 r3 r4
  have sn : Sq kp n cur n = nrm cur := Sq_n (by omega)
  have slast : Sq kp' n' cur' (n' - 1) = nrm cur := by rw [s1 (n' - 1) (by omega) (by omega), show n' - 1 + e = n by omega, sn]
  have c3200 : nrm cur 3200 = cur 3200 := nrm_at (by decide) (by decide)
  have c3200' : nrm cur' 3200 = cur' 3200 := nrm_at (by decide) (by decide)
  have many : ∀ l, 0 ≤ l → l ≤ n → Sq kp n cur l 3200 ≤ cur 3200 := by
    intro l l0 l1
    by_cases d : l = n
    · rw [d, sn, c3200]; exact Int.le_refl _
    · have := h2 l n l0 (by omega) (Int.le_refl _)
      rw [sn, c3200] at this
      exact this
  refine ⟨⟨by omega, e10.2⟩, fun j j0 j1 => ?_, fun j l j0 jl l1 => ?_, fun j l j0 jl l1 q s s0 s1' => ?_, fun j j0 j1 q => ?_, fun j l j0 jl l1 q1 q2 => ?_⟩
  · by_cases d : j = n' - 1
    · rw [d, t1, t2, t3, t4, slast, show n' - 1 + 1 = n' by omega, s2]
      exact ⟨hL, hv.congr (fun k k0 k1 => nrm_at k0 k1)⟩
    · obtain ⟨w1, w2, w3, w4⟩ := s3 j j0 (by omega)
      rw [w1, w2, w3, w4, s1 j j0 (by omega), s1 (j + 1) (by omega) (by omega), show j + 1 + e = j + e + 1 by omega]
      have := h1 (j + e) (by omega) (by omega)
      exact ⟨hst (j + e) (by omega) (by omega) this.1, this.2⟩
  · by_cases d : l = n'
    · rw [d, s2, c3200', s1 j j0 (by omega)]
      have := many (j + e) (by omega) (by omega)
      omega
    · rw [s1 j j0 (by omega), s1 l (by omega) (by omega)]
      exact h2 (j + e) (l + e) (by omega) (by omega) (by omega)
  · by_cases d : l = n'
    · rw [d, s2, nrm_at (by omega) (by omega)]
      by_cases x : j = n' - 1
      · rw [x, t1] at q
        exact ho (Or.inr q) s s0 s1'
      · rw [(s3 j j0 (by omega)).1] at q
        exact ho (Or.inl ⟨j + e, ⟨by omega, by omega⟩, q⟩) s s0 s1'
    · rw [s1 l (by omega) (by omega)]
      rw [(s3 j j0 (by omega)).1] at q
      exact h3 (j + e) (l + e) (by omega) (by omega) (by omega) q s s0 s1'
  · by_cases d : j = n' - 1
    · rw [d, t2]
      rw [d, t1] at q
      exact (hl.2 q).2
    · obtain ⟨w1, w2, -, -⟩ := s3 j j0 (by omega)
      rw [w2]
      rw [w1] at q
      have := h4 (j + e) (by omega) (by omega) q
      omega
  · obtain ⟨w1, w2, -, -⟩ := s3 j j0 (by omega)
    rw [w1] at q1
    have hj := h4 (j + e) (by omega) (by omega) q1
    by_cases d : l = n' - 1
    · rw [d, t1] at q2
      rw [d, t2, w2]
      have := (hl.2 q2).1
      omega
    · obtain ⟨x1, x2, -, -⟩ := s3 l (by omega) (by omega)
      rw [x1] at q2
      rw [w2, x2]
      exact h5 (j + e) (l + e) (by omega) (by omega) (by omega) q1 q2
theorem ChR.pop (h : ChR lb iz isc iop iba ln ak a1 a2 a3 n kp cur) (hn : 1 ≤ n) {lb' cur' : Int → Int} (hc : ∀ k, 0 ≤ k → k < 3206 → cur' k = blk kp (n - 1) k) (hst : ∀ j, 0 ≤ j → j < n - 1 → Link lb iz isc iop iba (ak j) (a1 j) (a2 j) (a3 j) (Sq kp n cur j) (Sq kp n cur (j + 1)) → Link lb' iz isc iop iba (ak j) (a1 j) (a2 j) (a3 j) (Sq kp n cur j) (Sq kp n cur (j + 1))) : ChR lb' iz isc iop iba ln ak a1 a2 a3 (n - 1) kp cur' := by
  obtain ⟨h0, h1, h2, h3, h4, h5⟩ := h
  have s1 : ∀ l, 0 ≤ l → l ≤ n - 1 → Sq kp (n - 1) cur' l = Sq kp n cur l := by
    intro l l0 l1
    rw [Sq_l (n := n) (by omega)]
    by_cases d : l < n - 1
    · rw [Sq_l d]
    · rw [Sq_n d, show l = n - 1 by omega]
      exact nrm_eq hc
  refine ⟨⟨by omega, by omega⟩, fun j j0 j1 => ?_, fun j l j0 jl l1 => ?_, fun j l j0 jl l1 q => ?_, fun j j0 j1 => h4 j j0 (by omega), fun j l j0 jl l1 => h5 j l j0 jl (by omega)⟩
  · rw [s1 j j0 (by omega), s1 (j + 1) (by omega) (by omega)]
    have := h1 j j0 (by omega)
    exact ⟨hst j j0 j1 this.1, this.2⟩
  · rw [s1 j j0 (by omega), s1 l (by omega) l1]
    exact h2 j l j0 jl (by omega)
  · rw [s1 l (by omega) l1]
    exact h3 j l j0 jl (by omega) q
end
