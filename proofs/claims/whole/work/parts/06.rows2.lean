theorem kw_max_s : Cond.static Lib.Math.max.name ∈ lw_g := lw_in 125 (by decide +kernel) (by decide +kernel)
theorem kw_max_c : Cond.code Lib.Math.max.name Lib.Math.max.code 2 (some .int) ∈ lw_g := lw_in 126 (by decide +kernel) (by decide +kernel)
theorem kw_min_s : Cond.static Lib.Math.min.name ∈ lw_g := lw_in 441 (by decide +kernel) (by decide +kernel)
theorem kw_min_c : Cond.code Lib.Math.min.name Lib.Math.min.code 2 (some .int) ∈ lw_g := lw_in 442 (by decide +kernel) (by decide +kernel)
theorem kw_absL_s : Cond.static Lib.MathLoose.abs_long.x ∈ lw_g := lw_in 731 (by decide +kernel) (by decide +kernel)
theorem kw_absL_c : Cond.code Lib.MathLoose.abs_long.x Lib.MathLoose.abs_long.code 2 (some .long) ∈ lw_g := lw_in 732 (by decide +kernel) (by decide +kernel)
theorem kw_minL_s : Cond.static Lib.MathLoose.min_long.x ∈ lw_g := lw_in 1168 (by decide +kernel) (by decide +kernel)
theorem kw_minL_c : Cond.code Lib.MathLoose.min_long.x Lib.MathLoose.min_long.code 4 (some .long) ∈ lw_g := lw_in 1169 (by decide +kernel) (by decide +kernel)
theorem kw_maxL_s : Cond.static Lib.MathLoose.max_long.x ∈ lw_g := lw_in 1737 (by decide +kernel) (by decide +kernel)
theorem kw_maxL_c : Cond.code Lib.MathLoose.max_long.x Lib.MathLoose.max_long.code 4 (some .long) ∈ lw_g := lw_in 1738 (by decide +kernel) (by decide +kernel)
theorem kw_Math : Cond.initialized "java/lang/Math" ∈ lw_g := lw_in 87 (by decide +kernel) (by decide +kernel)
theorem kw_Sys : Cond.initialized "java/lang/System" ∈ lw_g := lw_in 98 (by decide +kernel) (by decide +kernel)
theorem kw_cp_s : Cond.static arraycopyName ∈ lw_g := lw_in 444 (by decide +kernel) (by decide +kernel)
theorem kw_cp_n : Cond.native arraycopyName ∈ lw_g := lw_in 445 (by decide +kernel) (by decide +kernel)
theorem nz_f {v : Int} (g : v = 0 ∨ v = 1) : fits .boolean (.int (kI v)) = true := by rcases g with rfl | rfl <;> decide +kernel
section
variable {p : Program} {l : Launch} {e : Env} {R : Room} {s : State} {m : MethodId} {args : Array Value} {below : List Frame} {meth : Method} {c : Code} {H : Heap} {locs : List Loc} {cells slots : Nat} {Q : State → Prop} {cc : ByteArray} {pc : Nat} {ls : Array Slot} {rest : List Value} {own : String} {nL : Nat} {G : GG} {S : SM} {A : Nat → Prop} {ws wc w1 w2 : va_W} {H0 : Heap} {st0 : List Value} {rm : Room}
theorem jv_max {a b : Int} (ga : rI a) (gb : rI b) : (if kI a < kI b then kI b else kI a) = kI (max a b) := by
  by_cases h : a < b
  · rw [if_pos ((kI_lt ga gb).mpr h), Int.max_eq_right (by omega)]
  · rw [if_neg (fun q => h ((kI_lt ga gb).mp q)), Int.max_eq_left (by omega)]
theorem jv_min {a b : Int} (ga : rI a) (gb : rI b) : (if kI b < kI a then kI b else kI a) = kI (min a b) := by
  by_cases h : b < a
  · rw [if_pos ((kI_lt gb ga).mpr h), Int.min_eq_right (by omega)]
  · rw [if_neg (fun q => h ((kI_lt gb ga).mp q)), Int.min_eq_left (by omega)]
theorem jv_maxL {a b : Int} (ga : rL a) (gb : rL b) : (if kL b < kL a then kL a else kL b) = kL (max a b) := by
  by_cases h : b < a
  · rw [if_pos ((kL_lt gb ga).mpr h), Int.max_eq_left (by omega)]
  · rw [if_neg (fun q => h ((kL_lt gb ga).mp q)), Int.max_eq_right (by omega)]
theorem jv_minL {a b : Int} (ga : rL a) (gb : rL b) : (if kL b < kL a then kL b else kL a) = kL (min a b) := by
  by_cases h : b < a
  · rw [if_pos ((kL_lt gb ga).mpr h), Int.min_eq_right (by omega)]
  · rw [if_neg (fun q => h ((kL_lt gb ga).mp q)), Int.min_eq_left (by omega)]
theorem jv_absL {a : Int} (ga : rL a) : (if 0 < kL a then kL a else -kL a) = kL (iabs a) := by
  have e : (0 < kL a) ↔ 0 < a := by
    have := kL_lt (a := 0) (b := a) ⟨by decide, by decide⟩ ga
    exact this
  unfold iabs
  by_cases h : 0 < a
  · rw [if_pos (e.mpr h), if_pos h]
  · rw [if_neg (fun q => h (e.mp q)), if_neg h, kL_neg]
theorem rj_max {a b : Int} {index : Nat} (ga : rI a) (gb : rI b) (hx : p.tables.exec = Jvm.exec) (hb : c.code = cc) (cx : CX p s m args c cc own nL G S A) (hsz : ls.size = nL) (lk : Cond.methodLink own index Lib.Math.max.name ∈ lw_g) (hf : 1 ≤ R.frames) (hl : (rest.map fun v => v.category).sum + 13 ≤ R.locals) (hc : cells ≤ R.cells) (hs : slots ≤ R.slots) (d : decode cc pc = .ok (.invokestatic index, 3)) (k : W p l e R s m args below meth c H locs cells slots Q (F0 m (pc + 3) ls (.int (kI (max a b)) :: rest))) : W p l e R s m args below meth c H locs cells slots Q (F0 m (pc) ls (.int (kI b) :: .int (kI a) :: rest)) :=
  have ok := cx.1.2.2.2.2
  va_mmax hx hb (cx.1.2.2.1.trans hsz.symm) cx.1.2.2.2.1 (ok _ lk) (ok _ kw_max_s) (ok _ kw_Math) (ok _ kw_max_c) hf hl hc hs d (by rw [jv_max ga gb]; exact k)
theorem rj_min {a b : Int} {index : Nat} (ga : rI a) (gb : rI b) (hx : p.tables.exec = Jvm.exec) (hb : c.code = cc) (cx : CX p s m args c cc own nL G S A) (hsz : ls.size = nL) (lk : Cond.methodLink own index Lib.Math.min.name ∈ lw_g) (hf : 1 ≤ R.frames) (hl : (rest.map fun v => v.category).sum + 13 ≤ R.locals) (hc : cells ≤ R.cells) (hs : slots ≤ R.slots) (d : decode cc pc = .ok (.invokestatic index, 3)) (k : W p l e R s m args below meth c H locs cells slots Q (F0 m (pc + 3) ls (.int (kI (min a b)) :: rest))) : W p l e R s m args below meth c H locs cells slots Q (F0 m (pc) ls (.int (kI b) :: .int (kI a) :: rest)) :=
  have ok := cx.1.2.2.2.2
  va_mmin hx hb (cx.1.2.2.1.trans hsz.symm) cx.1.2.2.2.1 (ok _ lk) (ok _ kw_min_s) (ok _ kw_Math) (ok _ kw_min_c) hf hl hc hs d (by rw [jv_min ga gb]; exact k)
theorem rj_maxL {a b : Int} {index : Nat} (ga : rL a) (gb : rL b) (hx : p.tables.exec = Jvm.exec) (hb : c.code = cc) (cx : CX p s m args c cc own nL G S A) (hsz : ls.size = nL) (lk : Cond.methodLink own index Lib.MathLoose.max_long.x ∈ lw_g) (hf : 1 ≤ R.frames) (hl : (rest.map fun v => v.category).sum + 15 ≤ R.locals) (hc : cells ≤ R.cells) (hs : slots ≤ R.slots) (d : decode cc pc = .ok (.invokestatic index, 3)) (k : W p l e R s m args below meth c H locs cells slots Q (F0 m (pc + 3) ls (.long (kL (max a b)) :: rest))) : W p l e R s m args below meth c H locs cells slots Q (F0 m (pc) ls (.long (kL b) :: .long (kL a) :: rest)) :=
  have ok := cx.1.2.2.2.2
  va_mmax_long hx hb (cx.1.2.2.1.trans hsz.symm) cx.1.2.2.2.1 (ok _ lk) (ok _ kw_maxL_s) (ok _ kw_Math) (ok _ kw_maxL_c) hf hl hc hs d (by rw [jv_maxL ga gb]; exact k)
theorem rj_minL {a b : Int} {index : Nat} (ga : rL a) (gb : rL b) (hx : p.tables.exec = Jvm.exec) (hb : c.code = cc) (cx : CX p s m args c cc own nL G S A) (hsz : ls.size = nL) (lk : Cond.methodLink own index Lib.MathLoose.min_long.x ∈ lw_g) (hf : 1 ≤ R.frames) (hl : (rest.map fun v => v.category).sum + 15 ≤ R.locals) (hc : cells ≤ R.cells) (hs : slots ≤ R.slots) (d : decode cc pc = .ok (.invokestatic index, 3)) (k : W p l e R s m args below meth c H locs cells slots Q (F0 m (pc + 3) ls (.long (kL (min a b)) :: rest))) : W p l e R s m args below meth c H locs cells slots Q (F0 m (pc) ls (.long (kL b) :: .long (kL a) :: rest)) :=
  have ok := cx.1.2.2.2.2
  va_mmin_long hx hb (cx.1.2.2.1.trans hsz.symm) cx.1.2.2.2.1 (ok _ lk) (ok _ kw_minL_s) (ok _ kw_Math) (ok _ kw_minL_c) hf hl hc hs d (by rw [jv_minL ga gb]; exact k)
theorem rj_absL {a : Int} {index : Nat} (ga : rL a) (hx : p.tables.exec = Jvm.exec) (hb : c.code = cc) (cx : CX p s m args c cc own nL G S A) (hsz : ls.size = nL) (lk : Cond.methodLink own index Lib.MathLoose.abs_long.x ∈ lw_g) (hf : 1 ≤ R.frames) (hl : (rest.map fun v => v.category).sum + 13 ≤ R.locals) (hc : cells ≤ R.cells) (hs : slots ≤ R.slots) (d : decode cc pc = .ok (.invokestatic index, 3)) (k : W p l e R s m args below meth c H locs cells slots Q (F0 m (pc + 3) ls (.long (kL (iabs a)) :: rest))) : W p l e R s m args below meth c H locs cells slots Q (F0 m (pc) ls (.long (kL a) :: rest)) :=
  have ok := cx.1.2.2.2.2
  va_mabs_long hx hb (cx.1.2.2.1.trans hsz.symm) cx.1.2.2.2.1 (ok _ lk) (ok _ kw_absL_s) (ok _ kw_Math) (ok _ kw_absL_c) hf hl hc hs d (by rw [jv_absL ga]; exact k)
theorem rj_copy {a0 a n0 n1 : Nat} {f g : Int → Int} {sp dp n : Int} {index : Nat} (hx : p.tables.exec = Jvm.exec) (hb : c.code = cc) (cx : CX p s m args c cc own nL G S A) (hsz : ls.size = nL) (hw : HP G A H0 H locs ws) (lk : Cond.methodLink own index arraycopyName ∈ lw_g) (q0 q1 : Nat) (h0 : ws[q0]? = some (a0, cAI G n0 f)) (h1 : ws[q1]? = some (a, cAI G n1 g)) (g1 : rI sp) (g2 : rI dp) (g3 : rI n) (gg : (0 ≤ sp ∧ 0 ≤ dp ∧ 0 ≤ n) ∧ sp + n ≤ n0 ∧ dp + n ≤ n1) (hf : 1 ≤ R.frames) (hl : (rest.map fun v => v.category).sum + (nativeFrameWords "java/lang/System" "arraycopy" 5 + 11) ≤ R.locals) (d : decode cc pc = .ok (.invokestatic index, 3)) (k : ∀ H1 locs1, HP G A H0 H1 locs1 (ws.set q1 (a, cAI G n1 (cP f g sp dp n))) → W p l e R s m args below meth c H1 locs1 cells slots Q (F0 m (pc + 3) ls (rest))) : W p l e R s m args below meth c H locs cells slots Q (F0 m (pc) ls (.int (kI n) :: .int (kI dp) :: .ref a :: .int (kI sp) :: .ref a0 :: rest)) := by
  have ok := cx.1.2.2.2.2
  have c1 := kI_clamp g1 gg.1.1
  have c2 := kI_clamp g2 gg.1.2.1
  have c3 := kI_clamp g3 gg.1.2.2
  have ng : ∀ {x : Int}, rI x → 0 ≤ x → ¬ kI x < 0 := fun hr h q => by
    have := (kI_lt hr (b := 0) ⟨by decide, by decide⟩).mp q
    omega
  refine va_copyi hx hb (cx.1.2.2.1.trans hsz.symm) cx.1.2.2.2.1 (ok _ lk) (ok _ kw_cp_n) (ok _ kw_cp_s) (ok _ kw_Sys) cx.2.1 hw.1 hw.2.1 hw.2.2.1 q0 q1 0 0 (ty := .int) h0 h1 rfl rfl rfl (ng g1 gg.1.1) (ng g2 gg.1.2.1) (ng g3 gg.1.2.2) (by rw [c1, c3]; omega) (by rw [c2, c3]; omega) (fun i _ => rfl) hf hl d (fun H1 locs1 e1 e2 e3 => ?_)
  rw [aI_cp g1 gg.1.1 g2 gg.1.2.1 g3 gg.1.2.2] at e1 e2
  exact k H1 locs1 ⟨e1, e2, e3, hw.2.2.2⟩
theorem rt_in (hx : p.tables.exec = Jvm.exec) (hb : c.code = cc) {dflt lo hi : Int} {offs : Array Int} {len : Nat} {x k off : Int} {tgt : Nat} (g : rI x) (hk : x = k) (d : decode cc pc = .ok (.tableswitch dflt lo hi offs, len)) (ho : (if k < lo then none else if hi < k then none else offs[(k - lo).toNat]?) = some off) (ht : (pc : Int) + off = (tgt : Int)) (kk : W p l e R s m args below meth c H locs cells slots Q (F0 m (tgt) ls (rest))) : W p l e R s m args below meth c H locs cells slots Q (F0 m (pc) ls (.int (kI x) :: rest)) := by
  subst hk
  by_cases h1 : x < lo
  · rw [if_pos h1] at ho; cases ho
  · rw [if_neg h1] at ho
    by_cases h2 : hi < x
    · rw [if_pos h2] at ho; cases ho
    · rw [if_neg h2] at ho
      exact lv_tableIn hx hb d (by rw [kI_toInt g]; exact h1) (by rw [kI_toInt g]; exact h2) (by rw [kI_toInt g]; exact ho) ht kk
theorem rt_out (hx : p.tables.exec = Jvm.exec) (hb : c.code = cc) {dflt lo hi : Int} {offs : Array Int} {len : Nat} {x : Int} {tgt : Nat} (g : rI x) (d : decode cc pc = .ok (.tableswitch dflt lo hi offs, len)) (h : x < lo ∨ hi < x) (ht : (pc : Int) + dflt = (tgt : Int)) (kk : W p l e R s m args below meth c H locs cells slots Q (F0 m (tgt) ls (rest))) : W p l e R s m args below meth c H locs cells slots Q (F0 m (pc) ls (.int (kI x) :: rest)) :=
  lv_tableOut hx hb d (by rw [kI_toInt g]; exact h) ht kk
/-- behind a call that leaves its cells as they were, the world is what it was -/
theorem hp_same {H1 : Heap} {locs1 : List Loc} {t : State} (hw : HP G A H0 H locs ws) (isC : List Nat) (hC : isC.filterMap (fun i => ws[i]?) = wc) (ht : t.heap = H1) (hB : WB G (va_A wc H.size) wc t) (hk : ∀ q : Nat, q < H.size → ¬ va_A wc H.size q → H1[q]? = H[q]?) (hS : va_S A H0 H1 locs1) : HP G A H0 H1 locs1 ws := by
  obtain ⟨hP1, -, -⟩ := hB
  rw [ht] at hP1
  refine ⟨fun k q hq => ?_, hw.2.1, hS, hw.2.2.2⟩
  by_cases hin : va_A wc H.size q.1
  · rcases hin with ⟨j, e, hj⟩ | hj
    · have hm : (q.1, e) ∈ isC.filterMap (fun i => ws[i]?) := by rw [hC]; exact List.mem_of_getElem? hj
      obtain ⟨i, -, hi⟩ := List.mem_filterMap.mp hm
      have e1 : i = k := hw.2.1.1 i k _ _ hi hq rfl
      subst e1
      have e2 : (q.1, e) = q := Option.some.inj (hi.symm.trans hq)
      have := hP1 j _ hj
      rw [e2] at this
      exact this
    · exact absurd (hw.1 k q hq).lt (by omega)
  · exact (hw.1 k q hq).kept (hk q.1 (hw.1 k q hq).lt hin)
theorem rc_I0 {v : Int} {a : Array Value} (hw : HP G A H0 H locs ws) (isC : List Nat) (hr : va_Run p l e R s m args below meth c H locs cells slots rm.cells rm.slots (F0 m pc ls st0) rest (QcI G (va_A wc H.size) v wc a) (va_A wc H.size)) (hC : isC.filterMap (fun i => ws[i]?) = wc) (hinC : isC.all (fun i => decide (i < ws.length)) = true)
    (kk : ∀ H1 locs1, HP G A H0 H1 locs1 ws → W p l e R s m args below meth c H1 locs1 (cells + rm.cells) (slots + rm.slots) Q (F0 m (pc + 3) ls (.int (kI v) :: rest))) : W p l e R s m args below meth c H locs cells slots Q (F0 m pc ls st0) := by
  have hF := hp_free hw isC hC hinC
  refine va_calli hr hw.2.2.1 (fun q _ h => hF q h) hF (fun r u t H1 locs1 ht hvm hpost hB hz hk hS => ?_)
  have hpost : r = _ := hpost
  rw [hpost]
  exact kk H1 locs1 (hp_same hw isC hC ht hB hk hS)
theorem rc_L0 {v : Int} {a : Array Value} (hw : HP G A H0 H locs ws) (isC : List Nat) (hr : va_Run p l e R s m args below meth c H locs cells slots rm.cells rm.slots (F0 m pc ls st0) rest (QcL G (va_A wc H.size) v wc a) (va_A wc H.size)) (hC : isC.filterMap (fun i => ws[i]?) = wc) (hinC : isC.all (fun i => decide (i < ws.length)) = true)
    (kk : ∀ H1 locs1, HP G A H0 H1 locs1 ws → W p l e R s m args below meth c H1 locs1 (cells + rm.cells) (slots + rm.slots) Q (F0 m (pc + 3) ls (.long (kL v) :: rest))) : W p l e R s m args below meth c H locs cells slots Q (F0 m pc ls st0) := by
  have hF := hp_free hw isC hC hinC
  refine va_calll hr hw.2.2.1 (fun q _ h => hF q h) hF (fun r u t H1 locs1 ht hvm hpost hB hz hk hS => ?_)
  have hpost : r = _ := hpost
  rw [hpost]
  exact kk H1 locs1 (hp_same hw isC hC ht hB hk hS)
theorem rc_D0 {v : UInt64} {a : Array Value} (hw : HP G A H0 H locs ws) (isC : List Nat) (hr : va_Run p l e R s m args below meth c H locs cells slots rm.cells rm.slots (F0 m pc ls st0) rest (QcD G (va_A wc H.size) v wc a) (va_A wc H.size)) (hC : isC.filterMap (fun i => ws[i]?) = wc) (hinC : isC.all (fun i => decide (i < ws.length)) = true)
    (kk : ∀ H1 locs1, HP G A H0 H1 locs1 ws → W p l e R s m args below meth c H1 locs1 (cells + rm.cells) (slots + rm.slots) Q (F0 m (pc + 3) ls (.double (v) :: rest))) : W p l e R s m args below meth c H locs cells slots Q (F0 m pc ls st0) := by
  have hF := hp_free hw isC hC hinC
  refine va_calld hr hw.2.2.1 (fun q _ h => hF q h) hF (fun r u t H1 locs1 ht hvm hpost hB hz hk hS => ?_)
  have hpost : r = _ := hpost
  rw [hpost]
  exact kk H1 locs1 (hp_same hw isC hC ht hB hk hS)
theorem rc_V0 {a : Array Value} (hw : HP G A H0 H locs ws) (isC : List Nat) (hr : va_Run p l e R s m args below meth c H locs cells slots rm.cells rm.slots (F0 m pc ls st0) rest (QcV G (va_A wc H.size) wc a) (va_A wc H.size)) (hC : isC.filterMap (fun i => ws[i]?) = wc) (hinC : isC.all (fun i => decide (i < ws.length)) = true)
    (kk : ∀ H1 locs1, HP G A H0 H1 locs1 ws → W p l e R s m args below meth c H1 locs1 (cells + rm.cells) (slots + rm.slots) Q (F0 m (pc + 3) ls rest)) : W p l e R s m args below meth c H locs cells slots Q (F0 m pc ls st0) := by
  have hF := hp_free hw isC hC hinC
  refine va_callv hr hw.2.2.1 (fun q _ h => hF q h) hF (fun u t H1 locs1 ht hvm hpost hB hz hk hS => ?_)
  exact kk H1 locs1 (hp_same hw isC hC ht hB hk hS)
end
