theorem kw_dr_s : Cond.static ⟨"java/lang/Double", "doubleToRawLongBits", "(D)J"⟩ ∈ lw_g := lw_in 1619 (by decide +kernel) (by decide +kernel)
theorem kw_dr_n : Cond.native ⟨"java/lang/Double", "doubleToRawLongBits", "(D)J"⟩ ∈ lw_g := lw_in 1620 (by decide +kernel) (by decide +kernel)
theorem kw_dr_i : Cond.initialized "java/lang/Double" ∈ lw_g := lw_in 107 (by decide +kernel) (by decide +kernel)
theorem kw_fr_s : Cond.static ⟨"java/lang/Float", "floatToRawIntBits", "(F)I"⟩ ∈ lw_g := lw_in 1629 (by decide +kernel) (by decide +kernel)
theorem kw_fr_n : Cond.native ⟨"java/lang/Float", "floatToRawIntBits", "(F)I"⟩ ∈ lw_g := lw_in 1630 (by decide +kernel) (by decide +kernel)
theorem kw_fr_i : Cond.initialized "java/lang/Float" ∈ lw_g := lw_in 108 (by decide +kernel) (by decide +kernel)
theorem kw_aI : Cond.arrayClass .int ∈ lw_g := lw_in 138 (by decide +kernel) (by decide +kernel)
theorem kw_aD : Cond.arrayClass .double ∈ lw_g := lw_in 1087 (by decide +kernel) (by decide +kernel)
theorem kw_aZ : Cond.arrayClass .boolean ∈ lw_g := lw_in 1420 (by decide +kernel) (by decide +kernel)
theorem kw_aL : Cond.arrayClass .long ∈ lw_g := lw_in 1421 (by decide +kernel) (by decide +kernel)
theorem kw_oi : Cond.instanceMethod Lib.objectInit ∈ lw_g := lw_in 116 (by decide +kernel) (by decide +kernel)
theorem kw_oc : Cond.code Lib.objectInit ⟨#[0xb1]⟩ 1 none ∈ lw_g := lw_in 117 (by decide +kernel) (by decide +kernel)
def QcVx (G : GG) (A : Nat → Prop) (w1 : (Nat → Nat) → va_W) := va_Qv (S := Nat → Nat) (fun _ => True) (fun u t => WB G A (w1 u) t) A
/-- a contract of a method that makes cells: where they lie is told behind it -/
def CtVx (l : Launch) (y : MethodName) (cc : ByteArray) (maxL : Nat) (rm : Room) (G : GG) (S : SM) (sz : Nat) (av : List Value) (ws : va_W) (w1 : (Nat → Nat) → va_W) : Prop := Met l y (.code y cc maxL none :: lw_g) rm (PreC G S sz av ws) (QcVx G (va_A ws sz) w1) rm.cells rm.slots (va_A ws sz)
def MI (own : String) (idx : Nat) (y : MethodName) (cc : ByteArray) (maxL n : Nat) : Prop := Cond.methodLink own idx y ∈ lw_g ∧ Cond.instanceMethod y ∈ lw_g ∧ Cond.initialized y.cls ∈ lw_g ∧ Cond.code y cc maxL none ∈ lw_g ∧ y.name = "<init>" ∧ (y.cls ≠ "java/lang/invoke/MethodHandle" ∧ y.cls ≠ "java/lang/invoke/VarHandle" ∧ (parseMethodDescriptor y.desc).map (fun d => d.parameters.length) = some n)
def MN (y : MethodName) (cc : ByteArray) (maxL n : Nat) : Prop := Cond.instanceMethod y ∈ lw_g ∧ Cond.initialized y.cls ∈ lw_g ∧ Cond.code y cc maxL none ∈ lw_g ∧ y.name = "<init>" ∧ (y.cls ≠ "java/lang/invoke/MethodHandle" ∧ y.cls ≠ "java/lang/invoke/VarHandle" ∧ (parseMethodDescriptor y.desc).map (fun d => d.parameters.length) = some n)
section
variable {p : Program} {l : Launch} {e : Env} {R : Room} {s : State} {m : MethodId} {args : Array Value} {below : List Frame} {meth : Method} {c : Code} {H : Heap} {locs : List Loc} {cells slots : Nat} {Q : State → Prop} {cc : ByteArray} {pc : Nat} {ls : Array Slot} {rest : List Value} {own : String} {nL : Nat} {G : GG} {S : SM} {A : Nat → Prop} {ws wc w2 : va_W} {w1 : (Nat → Nat) → va_W} {st0 : List Value} {y : MethodName} {bytes : ByteArray} {maxL n index : Nat} {rm : Room} {Qc : Array Value → State → Outcome → State → Prop} {free : Addr → Prop} {As : List Value} {b : Nat}
theorem rn_d2l {x : UInt64} (hx : p.tables.exec = Jvm.exec) (hb : c.code = cc) (cx : CX p s m args c cc own nL G S A) (hsz : ls.size = nL) (lk : Cond.methodLink own index ⟨"java/lang/Double", "doubleToRawLongBits", "(D)J"⟩ ∈ lw_g) (hf : 1 ≤ R.frames) (hl : (rest.map fun v => v.category).sum + 15 ≤ R.locals) (d : decode cc pc = .ok (.invokestatic index, 3)) (k : W p l e R s m args below meth c H locs cells slots Q (F0 m (pc + 3) ls (.long (kL (dB x)) :: rest))) : W p l e R s m args below meth c H locs cells slots Q (F0 m (pc) ls (.double x :: rest)) :=
  have ok := cx.1.2.2.2.2
  vn_d2l hx hb (cx.1.2.2.1.trans hsz.symm) cx.1.2.2.2.1 (ok _ lk) (ok _ kw_dr_n) (ok _ kw_dr_s) (ok _ kw_dr_i) hf hl d (by rw [← kL_of x.toInt64]; exact k)
theorem rn_f2i {x : UInt32} (hx : p.tables.exec = Jvm.exec) (hb : c.code = cc) (cx : CX p s m args c cc own nL G S A) (hsz : ls.size = nL) (lk : Cond.methodLink own index ⟨"java/lang/Float", "floatToRawIntBits", "(F)I"⟩ ∈ lw_g) (hf : 1 ≤ R.frames) (hl : (rest.map fun v => v.category).sum + 15 ≤ R.locals) (d : decode cc pc = .ok (.invokestatic index, 3)) (k : W p l e R s m args below meth c H locs cells slots Q (F0 m (pc + 3) ls (.int (kI (fB x)) :: rest))) : W p l e R s m args below meth c H locs cells slots Q (F0 m (pc) ls (.float x :: rest)) :=
  have ok := cx.1.2.2.2.2
  vn_f2i hx hb (cx.1.2.2.1.trans hsz.symm) cx.1.2.2.2.1 (ok _ lk) (ok _ kw_fr_n) (ok _ kw_fr_s) (ok _ kw_fr_i) hf hl d (by rw [← kI_of x.toInt32]; exact k)
theorem rx_score {a : Nat} (hx : p.tables.exec = Jvm.exec) (hb : c.code = cc) (cx : CX p s m args c cc own nL G S A) (hw : HP G A s.heap H locs ws) (g : S.1 a = true) (lk : Cond.fieldLink own index "RiskBands$Sample" "score" "[I" ∈ lw_g) (d : decode cc pc = .ok (.getfield index, 3)) (k : W p l e R s m args below meth c H locs cells slots Q (F0 m (pc + 3) ls (.ref (S.2.1 a) :: rest))) : W p l e R s m args below meth c H locs cells slots Q (F0 m (pc) ls (.ref a :: rest)) :=
  vk_getf hx hb (cx.2.2.2.2.1 a g).1.2.1 hw.2.2.1 cx.1.2.2.2.1 (cx.1.2.2.2.2 _ lk) (fun _ h => h) d k
theorem rx_cases {a : Nat} (hx : p.tables.exec = Jvm.exec) (hb : c.code = cc) (cx : CX p s m args c cc own nL G S A) (hw : HP G A s.heap H locs ws) (g : S.1 a = true) (lk : Cond.fieldLink own index "RiskBands$Sample" "cases" "[I" ∈ lw_g) (d : decode cc pc = .ok (.getfield index, 3)) (k : W p l e R s m args below meth c H locs cells slots Q (F0 m (pc + 3) ls (.ref (S.2.2.1 a) :: rest))) : W p l e R s m args below meth c H locs cells slots Q (F0 m (pc) ls (.ref a :: rest)) :=
  vk_getf hx hb (cx.2.2.2.2.1 a g).1.2.2.1 hw.2.2.1 cx.1.2.2.2.1 (cx.1.2.2.2.2 _ lk) (fun _ h => h) d k
theorem rx_size {a : Nat} (hx : p.tables.exec = Jvm.exec) (hb : c.code = cc) (cx : CX p s m args c cc own nL G S A) (hw : HP G A s.heap H locs ws) (g : S.1 a = true) (lk : Cond.fieldLink own index "RiskBands$Sample" "size" "I" ∈ lw_g) (d : decode cc pc = .ok (.getfield index, 3)) (k : W p l e R s m args below meth c H locs cells slots Q (F0 m (pc + 3) ls (.int (kI (smSize S a)) :: rest))) : W p l e R s m args below meth c H locs cells slots Q (F0 m (pc) ls (.ref a :: rest)) :=
  vk_getf hx hb (cx.2.2.2.2.1 a g).1.2.2.2.1 hw.2.2.1 cx.1.2.2.2.1 (cx.1.2.2.2.2 _ lk) (fun _ h => h) d k
theorem rx_total {a : Nat} (hx : p.tables.exec = Jvm.exec) (hb : c.code = cc) (cx : CX p s m args c cc own nL G S A) (hw : HP G A s.heap H locs ws) (g : S.1 a = true) (lk : Cond.fieldLink own index "RiskBands$Sample" "total" "I" ∈ lw_g) (d : decode cc pc = .ok (.getfield index, 3)) (k : W p l e R s m args below meth c H locs cells slots Q (F0 m (pc + 3) ls (.int (kI (smTotal S a)) :: rest))) : W p l e R s m args below meth c H locs cells slots Q (F0 m (pc) ls (.ref a :: rest)) :=
  vk_getf hx hb (cx.2.2.2.2.1 a g).1.2.2.2.2 hw.2.2.1 cx.1.2.2.2.1 (cx.1.2.2.2.2 _ lk) (fun _ h => h) d k
theorem rx_aS {a : Nat} {i : Int} (hx : p.tables.exec = Jvm.exec) (hb : c.code = cc) (cx : CX p s m args c cc own nL G S A) (hw : HP G A s.heap H locs ws) (g : S.1 a = true) (gi : 0 ≤ i ∧ i < smSize S a) (d : decode cc pc = .ok (.iaload, 1)) (k : W p l e R s m args below meth c H locs cells slots Q (F0 m (pc + 1) ls (.int (kI (smScore S a i)) :: rest))) : W p l e R s m args below meth c H locs cells slots Q (F0 m (pc) ls (.int (kI i) :: .ref (S.2.1 a) :: rest)) := by
  have h6 := (cx.2.2.2.2.1 a g).2.1
  have hr : rI i := by constructor <;> omega
  exact va_ti hx hb (cx.2.2.2.2.1 a g).2.2.1 hw.2.2.1 (kI_in (by omega) gi.1 (by omega)) (by rw [kI_clamp hr gi.1]; show Value.int (kI (smScore S a ((i.toNat : Nat) : Int))) = _; rw [Int.toNat_of_nonneg gi.1]) d k
theorem rx_aC {a : Nat} {i : Int} (hx : p.tables.exec = Jvm.exec) (hb : c.code = cc) (cx : CX p s m args c cc own nL G S A) (hw : HP G A s.heap H locs ws) (g : S.1 a = true) (gi : 0 ≤ i ∧ i < smSize S a) (d : decode cc pc = .ok (.iaload, 1)) (k : W p l e R s m args below meth c H locs cells slots Q (F0 m (pc + 1) ls (.int (kI (smCases S a i)) :: rest))) : W p l e R s m args below meth c H locs cells slots Q (F0 m (pc) ls (.int (kI i) :: .ref (S.2.2.1 a) :: rest)) := by
  have h6 := (cx.2.2.2.2.1 a g).2.1
  have hr : rI i := by constructor <;> omega
  exact va_ti hx hb (cx.2.2.2.2.1 a g).2.2.2 hw.2.2.1 (kI_in (by omega) gi.1 (by omega)) (by rw [kI_clamp hr gi.1]; show Value.int (kI (smCases S a ((i.toNat : Nat) : Int))) = _; rw [Int.toNat_of_nonneg gi.1]) d k
theorem rm_ald {a n : Nat} {f : Int → Nat} {i : Int} (hx : p.tables.exec = Jvm.exec) (hb : c.code = cc) (cx : CX p s m args c cc own nL G S A) (hw : HP G A s.heap H locs ws) (q0 : Nat) (ha : ws[q0]? = some (a, cAS G n f)) (hn : n < 2147483648) (g : 0 ≤ i ∧ i < n) (d : decode cc pc = .ok (.aaload, 1)) (k : W p l e R s m args below meth c H locs cells slots Q (F0 m (pc + 1) ls (.ref (f i) :: rest))) : W p l e R s m args below meth c H locs cells slots Q (F0 m (pc) ls (.int (kI i) :: .ref a :: rest)) :=
  va_aldq hx hb cx.2.1 hw.1 q0 4 ha rfl (kI_in hn g.1 g.2) d (by rw [aD_at (by constructor <;> omega) g.1]; exact k)
theorem rm_ast {a n v : Nat} {f : Int → Nat} {i : Int} (hx : p.tables.exec = Jvm.exec) (hb : c.code = cc) (cx : CX p s m args c cc own nL G S A) (hw : HP G A s.heap H locs ws) (q0 : Nat) (ha : ws[q0]? = some (a, cAS G n f)) (hn : n < 2147483648) (gv : S.1 v = true) (g : 0 ≤ i ∧ i < n) (d : decode cc pc = .ok (.aastore, 1)) (k : ∀ H1 locs1, HP G A s.heap H1 locs1 (ws.set q0 (a, cAS G n (uP f i v))) → W p l e R s m args below meth c H1 locs1 cells slots Q (F0 m (pc + 1) ls (rest))) : W p l e R s m args below meth c H locs cells slots Q (F0 m (pc) ls (.ref v :: .int (kI i) :: .ref a :: rest)) := by
  obtain ⟨cell, h1, h2, h3, h4⟩ := ((cx.2.2.2.2.1 v gv).1.1).kept hw.2.2.1.2.1
  obtain ⟨kC, hkC, -⟩ := Vm.findClass_spec h3
  have hr : rI i := by constructor <;> omega
  refine va_astqM hx hb cx.2.1 hw.1 hw.2.1 hw.2.2.1 q0 4 (E := "RiskBands$Sample") ha rfl ⟨cell, h1, h2, ⟨kC, hkC⟩, fun comp h => ?_⟩ (kI_in hn g.1 g.2) d (fun H1 locs1 e1 e2 e3 => ?_)
  · rw [h3] at h
    cases h
    exact va_asg _ _
  · have e : va_up (aD (fun j => some (f j))) (kI i).toNatClampNeg (some v) = aD (fun j => some (uP f i v j)) := by
      rw [kI_clamp hr g.1]
      funext j
      unfold va_up aD uP
      by_cases h : j = i.toNat
      · rw [if_pos h]; dsimp only; rw [if_pos (by omega)]
      · rw [if_neg h]; dsimp only; rw [if_neg (by omega)]
    rw [e] at e1 e2
    exact k H1 locs1 ⟨e1, e2, e3, hw.2.2.2⟩

theorem ra_newI {n : Int} (hx : p.tables.exec = Jvm.exec) (hb : c.code = cc) (cx : CX p s m args c cc own nL G S A) (hw : HP G A s.heap H locs ws) (g : 0 ≤ n ∧ n ≤ 100000) (hc : cells + 1 ≤ R.cells) (hs : slots + n.toNat ≤ R.slots) (d : decode cc pc = .ok (.newarray .int, 2)) (k : ∀ q H1, HP G A s.heap H1 locs (ws ++ [(q, cAI G n.toNat (fun _ => 0))]) → W p l e R s m args below meth c H1 locs (cells + 1) (slots + n.toNat) Q (F0 m (pc + 2) ls (.ref q :: rest))) : W p l e R s m args below meth c H locs cells slots Q (F0 m (pc) ls (.int (kI n) :: rest)) := by
  have hr : rI n := by constructor <;> omega
  refine va_newa (atype := .int) (ty := .int) (a0 := (n.toNat, .inl (aI (fun _ => 0)))) hx hb (cx.1.2.2.2.2 _ kw_aI) rfl cx.2.1 hw.1 hw.2.1 hw.2.2.1 hw.2.2.2 (N' := n.toNat) (fun cA => rfl) (fun h => ?_) (kI_clamp hr g.1) (by show n.toNat * 4 ≤ _; omega) hc hs d (fun q cA H1 e0 e1 e2 e3 => ?_)
  · have := (kI_lt hr (b := 0) ⟨by decide, by decide⟩).mp h
    omega
  · have h1 := (e0.2 5 _ rfl).2
    have h2 := (cx.2.1.2 0 _ rfl).2
    have h3 : cA = G.2.1 0 := Option.some.inj (h1.symm.trans h2)
    subst h3
    exact k q H1 ⟨e1, e2, e3, hw.2.2.2⟩
theorem ra_newD {n : Int} (hx : p.tables.exec = Jvm.exec) (hb : c.code = cc) (cx : CX p s m args c cc own nL G S A) (hw : HP G A s.heap H locs ws) (g : 0 ≤ n ∧ n ≤ 100000) (hc : cells + 1 ≤ R.cells) (hs : slots + n.toNat ≤ R.slots) (d : decode cc pc = .ok (.newarray .double, 2)) (k : ∀ q H1, HP G A s.heap H1 locs (ws ++ [(q, cAD G n.toNat (fun _ => 0))]) → W p l e R s m args below meth c H1 locs (cells + 1) (slots + n.toNat) Q (F0 m (pc + 2) ls (.ref q :: rest))) : W p l e R s m args below meth c H locs cells slots Q (F0 m (pc) ls (.int (kI n) :: rest)) := by
  have hr : rI n := by constructor <;> omega
  refine va_newa (atype := .double) (ty := .double) (a0 := (n.toNat, .inr (.inr (.inr (.inl (aD (fun _ => 0))))))) hx hb (cx.1.2.2.2.2 _ kw_aD) rfl cx.2.1 hw.1 hw.2.1 hw.2.2.1 hw.2.2.2 (N' := n.toNat) (fun cA => rfl) (fun h => ?_) (kI_clamp hr g.1) (by show n.toNat * 8 ≤ _; omega) hc hs d (fun q cA H1 e0 e1 e2 e3 => ?_)
  · have := (kI_lt hr (b := 0) ⟨by decide, by decide⟩).mp h
    omega
  · have h1 := (e0.2 5 _ rfl).2
    have h2 := (cx.2.1.2 1 _ rfl).2
    have h3 : cA = G.2.1 1 := Option.some.inj (h1.symm.trans h2)
    subst h3
    exact k q H1 ⟨e1, e2, e3, hw.2.2.2⟩
theorem ra_newL {n : Int} (hx : p.tables.exec = Jvm.exec) (hb : c.code = cc) (cx : CX p s m args c cc own nL G S A) (hw : HP G A s.heap H locs ws) (g : 0 ≤ n ∧ n ≤ 100000) (hc : cells + 1 ≤ R.cells) (hs : slots + n.toNat ≤ R.slots) (d : decode cc pc = .ok (.newarray .long, 2)) (k : ∀ q H1, HP G A s.heap H1 locs (ws ++ [(q, cAL G n.toNat (fun _ => 0))]) → W p l e R s m args below meth c H1 locs (cells + 1) (slots + n.toNat) Q (F0 m (pc + 2) ls (.ref q :: rest))) : W p l e R s m args below meth c H locs cells slots Q (F0 m (pc) ls (.int (kI n) :: rest)) := by
  have hr : rI n := by constructor <;> omega
  refine va_newa (atype := .long) (ty := .long) (a0 := (n.toNat, .inr (.inl (aL (fun _ => 0))))) hx hb (cx.1.2.2.2.2 _ kw_aL) rfl cx.2.1 hw.1 hw.2.1 hw.2.2.1 hw.2.2.2 (N' := n.toNat) (fun cA => rfl) (fun h => ?_) (kI_clamp hr g.1) (by show n.toNat * 8 ≤ _; omega) hc hs d (fun q cA H1 e0 e1 e2 e3 => ?_)
  · have := (kI_lt hr (b := 0) ⟨by decide, by decide⟩).mp h
    omega
  · have h1 := (e0.2 5 _ rfl).2
    have h2 := (cx.2.1.2 2 _ rfl).2
    have h3 : cA = G.2.1 2 := Option.some.inj (h1.symm.trans h2)
    subst h3
    exact k q H1 ⟨e1, e2, e3, hw.2.2.2⟩
theorem ra_newZ {n : Int} (hx : p.tables.exec = Jvm.exec) (hb : c.code = cc) (cx : CX p s m args c cc own nL G S A) (hw : HP G A s.heap H locs ws) (g : 0 ≤ n ∧ n ≤ 100000) (hc : cells + 1 ≤ R.cells) (hs : slots + n.toNat ≤ R.slots) (d : decode cc pc = .ok (.newarray .boolean, 2)) (k : ∀ q H1, HP G A s.heap H1 locs (ws ++ [(q, cAZ G n.toNat (fun _ => 0))]) → W p l e R s m args below meth c H1 locs (cells + 1) (slots + n.toNat) Q (F0 m (pc + 2) ls (.ref q :: rest))) : W p l e R s m args below meth c H locs cells slots Q (F0 m (pc) ls (.int (kI n) :: rest)) := by
  have hr : rI n := by constructor <;> omega
  refine va_newa (atype := .boolean) (ty := .boolean) (a0 := (n.toNat, .inl (aI (fun _ => 0)))) hx hb (cx.1.2.2.2.2 _ kw_aZ) rfl cx.2.1 hw.1 hw.2.1 hw.2.2.1 hw.2.2.2 (N' := n.toNat) (fun cA => rfl) (fun h => ?_) (kI_clamp hr g.1) (by show n.toNat * 1 ≤ _; omega) hc hs d (fun q cA H1 e0 e1 e2 e3 => ?_)
  · have := (kI_lt hr (b := 0) ⟨by decide, by decide⟩).mp h
    omega
  · have h1 := (e0.2 5 _ rfl).2
    have h2 := (cx.2.1.2 3 _ rfl).2
    have h3 : cA = G.2.1 3 := Option.some.inj (h1.symm.trans h2)
    subst h3
    exact k q H1 ⟨e1, e2, e3, hw.2.2.2⟩
theorem rf_new {C : String} {T : u_T} {N ci : Nat} {fs : List Value} (hx : p.tables.exec = Jvm.exec) (hb : c.code = cc) (cx : CX p s m args c cc own nL G S A) (hw : HP G A s.heap H locs ws) (hin : ∀ w ∈ u_ws C T N, w ∈ lw_g) (ty : Nat → FieldType) (hty : ∀ k, k < N → parseFieldDescriptor (T k).2.2.1 = some (ty k)) (h1 : Cond.classLink own index C ∈ lw_g) (h2 : Cond.instantiable C N ∈ lw_g) (h3 : Cond.initialized C ∈ lw_g) (hc0 : vwCl[ci]? = some (C, T, N)) (hfs : (List.range N).map (fun j => defaultValue (ty j)) = fs) (hc : cells + 1 ≤ R.cells) (hs : slots + N ≤ R.slots) (d : decode cc pc = .ok (.new index, 3)) (k : ∀ q H1, HP G A s.heap H1 locs (ws ++ [(q, .inr (ci, fs))]) → W p l e R s m args below meth c H1 locs (cells + 1) (slots + N) Q (F0 m (pc + 3) ls (.ref q :: rest))) : W p l e R s m args below meth c H locs cells slots Q (F0 m (pc) ls (rest)) :=
  have ok := cx.1.2.2.2.2
  va_new hx hb ok hin ty hty cx.1.2.2.2.1 (ok _ h1) (ok _ h2) (ok _ h3) cx.2.1 hw.1 hw.2.1 hw.2.2.1 hw.2.2.2 hc0 (fun j hj => by subst hfs; simp [vp_V, List.getD, List.getElem?_range hj]) hc hs d (fun q H1 e1 e2 e3 => k q H1 ⟨e1, e2, e3, hw.2.2.2⟩)
theorem sm_recv {a : Nat} (cx : CX p s m args c cc own nL G S A) (hw : HP G A s.heap H locs ws) (g : S.1 a = true) : ∃ cellB : Cell, H[a]? = some cellB ∧ cellB.vm.isStatics = false ∧ s.vm.findClass "RiskBands$Sample" = some cellB.cls := by
  obtain ⟨cell, h1, h2, h3, -⟩ := ((cx.2.2.2.2.1 a g).1.1).kept hw.2.2.1.2.1
  exact ⟨cell, h1, h2, h3⟩
theorem ro_init {a : Nat} (hx : p.tables.exec = Jvm.exec) (hb : c.code = cc) (cx : CX p s m args c cc own nL G S A) (hsz : ls.size = nL) (lk : Cond.methodLink own index Lib.objectInit ∈ lw_g) (hf : 1 ≤ R.frames) (hl : (rest.map fun v => v.category).sum + 12 ≤ R.locals) (d : decode cc pc = .ok (.invokespecial index, 3)) (k : W p l e R s m args below meth c H locs cells slots Q (F0 m (pc + 3) ls (rest))) : W p l e R s m args below meth c H locs cells slots Q (F0 m (pc) ls (.ref a :: rest)) :=
  have ok := cx.1.2.2.2.2
  W.objInit hx hb cx.1.2.2.2.1 (ok _ lk) (ok _ kw_oi) (ok _ kw_oc) (g := F0 m pc ls (.ref a :: rest)) rfl (hsz.trans cx.1.2.2.1.symm) rfl d hf (by show 2 * 0 + _ + 12 ≤ _; omega) k
theorem rr_I (cx : CX p s m args c cc own nL G S A) (hw : HP G A s.heap H locs ws) (M : Met l y (.code y bytes maxL none :: lw_g) rm (PreC G S H.size (.ref b :: As) wc) Qc rm.cells rm.slots free) (mv : MI own index y bytes maxL n) (isC : List Nat) (hC : isC.filterMap (fun i => ws[i]?) = wc) (hnd : va_nd isC = true) (hin : isC.all (fun i => decide (i < ws.length)) = true)
    (hR : rm.frames + 1 ≤ R.frames ∧ 8 + (maxL + 11) + rm.locals ≤ R.locals) (hn : As.length = n) (hsize : ls.size = nL) (hst : st0 = As.reverse ++ .ref b :: rest) (hW : (rest.map fun v => v.category).sum ≤ 8) (d : decode cc pc = .ok (.invokespecial index, 3)) (hf : cells + rm.cells ≤ R.cells ∧ slots + rm.slots ≤ R.slots) :
    va_Run p l e R s m args below meth c H locs cells slots rm.cells rm.slots (F0 m pc ls st0) rest (Qc (Value.ref b :: As).toArray) free := by
  have ok : ∀ w ∈ lw_g, w.before args s = true := cx.1.2.2.2.2
  refine va_runI (As := As) (b := b) cx.1 M ⟨callB_of n ok (wd_code mv.2.2.2.1) rfl rfl rfl (ok _ mv.2.2.1) (ok _ mv.1) mv.2.2.2.2.2 hR, mv.2.2.2.2.1, ok _ mv.2.1⟩ ⟨pre_blind, fun U hU hW => ⟨rfl, by rw [hU], by rw [hU]; exact hw.1.sub isC hC, ⟨va_K.moved hW.alike cx.2.1, ef_next cx hw (hp_free hw isC hC hin) hU hW⟩, (vD_fm hw.2.1 isC hnd hin hC).weaken (fun _ _ _ _ => trivial)⟩⟩ rfl hn hsize hst (lv_room hW) d hf
theorem rr_IN {host : String} (cx : CX p s m args c cc own nL G S A) (hw : HP G A s.heap H locs ws) (M : Met l y (.code y bytes maxL none :: lw_g) rm (PreC G S H.size (.ref b :: As) wc) Qc rm.cells rm.slots free) (hN : va_Nw (.methodLinkNest own index y host) s) (mv : MN y bytes maxL n) (isC : List Nat) (hC : isC.filterMap (fun i => ws[i]?) = wc) (hnd : va_nd isC = true) (hin : isC.all (fun i => decide (i < ws.length)) = true)
    (hR : rm.frames + 1 ≤ R.frames ∧ 8 + (maxL + 11) + rm.locals ≤ R.locals) (hn : As.length = n) (hsize : ls.size = nL) (hst : st0 = As.reverse ++ .ref b :: rest) (hW : (rest.map fun v => v.category).sum ≤ 8) (d : decode cc pc = .ok (.invokespecial index, 3)) (hf : cells + rm.cells ≤ R.cells ∧ slots + rm.slots ≤ R.slots) :
    va_Run p l e R s m args below meth c H locs cells slots rm.cells rm.slots (F0 m pc ls st0) rest (Qc (Value.ref b :: As).toArray) free := by
  have ok : ∀ w ∈ lw_g, w.before args s = true := cx.1.2.2.2.2
  refine va_runIN (As := As) (b := b) (host := host) cx.1 M ⟨va_cnB n ok (wd_code mv.2.2.1) rfl rfl rfl hN (ok _ mv.2.1) mv.2.2.2.2 hR, mv.2.2.2.1, ok _ mv.1⟩ ⟨pre_blind, fun U hU hW => ⟨rfl, by rw [hU], by rw [hU]; exact hw.1.sub isC hC, ⟨va_K.moved hW.alike cx.2.1, ef_next cx hw (hp_free hw isC hC hin) hU hW⟩, (vD_fm hw.2.1 isC hnd hin hC).weaken (fun _ _ _ _ => trivial)⟩⟩ rfl hn hsize hst (lv_room hW) d hf
/-- behind a call that made cells -/
theorem rc_Vx {a : Array Value} {wf : (Nat → Nat) → va_W} (hw : HP G A s.heap H locs ws) (isC isR : List Nat) (isP : List Nat) (hr : va_Run p l e R s m args below meth c H locs cells slots rm.cells rm.slots (F0 m pc ls st0) rest (QcVx G (va_A wc H.size) w1 a) (va_A wc H.size)) (hC : isC.filterMap (fun i => ws[i]?) = wc) (hinC : isC.all (fun i => decide (i < ws.length)) = true) (hinR : isR.all (fun i => decide (i < ws.length)) = true) (hnR : va_nd isR = true) (hdis : isR.all (fun i => !isC.elem i) = true) (hnP : va_nd isP = true) (hinP : ∀ u, isP.all (fun i => decide (i < (isR.filterMap (fun i => ws[i]?) ++ w1 u).length)) = true) (hP : ∀ u, isP.filterMap (fun i => (isR.filterMap (fun i => ws[i]?) ++ w1 u)[i]?) = wf u)
    (kk : ∀ u H1 locs1, HP G A s.heap H1 locs1 (wf u) → W p l e R s m args below meth c H1 locs1 (cells + rm.cells) (slots + rm.slots) Q (F0 m (pc + 3) ls rest)) : W p l e R s m args below meth c H locs cells slots Q (F0 m pc ls st0) := by
  have hF := hp_free hw isC hC hinC
  refine va_callv hr hw.2.2.1 (fun q _ h => hF q h) hF (fun u t H1 locs1 ht hvm hpost hB hz hk hS => ?_)
  exact kk u H1 locs1 (hp_join hw isC isR isP hC hinC hinR hnR hdis hnP (hinP u) (hP u) ht hB hk hS)
theorem re_vx (u : Nat → Nat) (hx : p.tables.exec = Jvm.exec) (hb : c.code = cc) (hlk : meth.locks = false) (hr : meth.sig.returnType = none) (cx : CX p s m args c cc own nL G S A) (hw : HP G A s.heap H locs (w1 u)) (hc : cells ≤ R.cells) (hs : slots ≤ R.slots) (d : decode cc pc = .ok (.return_, 1)) : W p l e R s m args below meth c H locs cells slots (MQ below (QcVx G A w1) args s R.cells R.slots A) (F0 m pc ls []) :=
  W.widen hc hs (W.vret hx hb hr (fun t ht hW => ⟨⟨u, rfl, trivial, by rw [ht]; exact hw.1, va_K.moved hW.alike cx.2.1, hw.2.1⟩, hw.2.2.1.F ht⟩) hw.2.2.1.2.2 d hlk)
end
