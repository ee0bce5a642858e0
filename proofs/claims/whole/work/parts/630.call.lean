/-! the law: what stays, what holds of the heap, calls -/
def LwC (p : Program) (s : State) (m : MethodId) (meth : Method) (c : Code) (b L : Nat) (xs : Nat → Int32) (G : GG) : Prop := lw_At p s m meth c b L xs ∧ va_K G.1 vwCl (tyG G) s ∧ strR G s ∧ strF G (fun q => s.heap.size ≤ q) s s.heap ∧ nsF s
def LwS (s : State) (G : GG) (S : SM) (H : Heap) (locs : List Loc) (ws : va_W) : Prop := HP G (fun q => s.heap.size ≤ q) s.heap H locs ws ∧ smF S (va_A ws H.size) s H
theorem lwq_c {x A B N : Nat} (h : A + B ≤ N) : x + A + B ≤ x + N := by omega
theorem lwq_r {x A : Nat} (hx : x ≤ 500000) (h : A ≤ 50000) : x + A ≤ room_1.cells := by
  show x + A ≤ 600000
  omega
theorem lwq_s {x A : Nat} (hx : x ≤ 7000000) (h : A ≤ 150000) : x + A ≤ room_1.slots := by
  show x + A ≤ 7302250
  omega
theorem lwq_r2 {x A B : Nat} (hx : x ≤ 500000) (h : A + B ≤ 50000) : x + A + B ≤ room_1.cells := by
  show x + A + B ≤ 600000
  omega
theorem lwq_s2 {x A B : Nat} (hx : x ≤ 7000000) (h : A + B ≤ 150000) : x + A + B ≤ room_1.slots := by
  show x + A + B ≤ 7302250
  omega
section
variable {p : Program} {l : Launch} {e : Env} {s : State} {m : MethodId} {below : List Frame} {meth : Method} {c : Code} {H : Heap} {locs : List Loc} {cells slots : Nat} {Q : State → Prop} {pc : Nat} {ls : Array Slot} {rest : List Value} {G : GG} {S : SM} {ws w1 : va_W} {st0 : List Value} {y : MethodName} {bytes : ByteArray} {maxL n index : Nat} {ret : Option FieldType} {rm : Room} {Qc : Array Value → State → Outcome → State → Prop} {free : Addr → Prop} {As : List Value} {b a L : Nat} {xs : Nat → Int32}
theorem LwC.ok (lc : LwC p s m meth c b L xs G) : ∀ w ∈ lw_g, w.before #[Value.ref b] s = true := fun w hw => lc.1.2.2.2.2.2.1 w (List.mem_filter.mp hw).1
theorem LwC.fix (lc : LwC p s m meth c b L xs G) : CallFix p m c code 4 s #[Value.ref b] lw_g RL := ⟨lc.1.1, lc.1.2.1, lc.1.2.2.2.1, lc.1.2.2.2.2.1, lc.ok⟩
theorem LwS.A (hs : LwS s G S H locs ws) : ∀ q, va_A ws H.size q → s.heap.size ≤ q := fun q h => by
  rcases h with ⟨k, e, h⟩ | h
  · exact hs.1.2.1.2 k (q, e) h
  · exact Nat.le_trans hs.1.2.2.1.1 h
theorem LwC.ef {U : State} (lc : LwC p s m meth c b L xs G) (hs : LwS s G S H locs ws) (hU : U.heap = H) (hW : s.WarmedH U.vm) : EF G S (va_A ws H.size) U U.heap := by
  obtain ⟨-, -, h1, h2, h4⟩ := lc
  rw [hU]
  exact ⟨h1.map (fun h => vk_R.warm hW h), h2.next hs.1.2.2.1.2.1 hs.A hW.alike, hs.2.next (fun _ _ _ => rfl) (fun _ h => h) hW.alike, nsF.warm hW h4⟩
theorem LwS.next {H1 : Heap} {locs1 : List Loc} {t : State} (hs : LwS s G S H locs ws) (ht : t.heap = H1) (hB : WB G (va_A ws H.size) w1 t) (hz : H.size ≤ H1.size) (hk : ∀ q : Nat, q < H.size → ¬ va_A ws H.size q → H1[q]? = H[q]?) (hS : va_S (fun q => s.heap.size ≤ q) s.heap H1 locs1) : LwS s G S H1 locs1 w1 := by
  refine ⟨⟨by rw [← ht]; exact hB.1, hB.2.2.weaken (fun k q _ h => hs.A q.1 h), hS, fun _ h => h⟩, hs.2.next hk (fun q h => ?_) (Vm.Alike.refl _)⟩
  rcases h with ⟨k, e, h⟩ | h
  · exact hB.2.2.2 k (q, e) h
  · exact Or.inr (Nat.le_trans hz h)
theorem LwS.pm {w2 : va_W} (hs : LwS s G S H locs ws) (hp : List.Perm ws w2) : LwS s G S H locs w2 := by
  obtain ⟨⟨h1, h2, h3⟩, h4⟩ := hs
  have hm : ∀ q, q ∈ w2 → q ∈ ws := fun q h => hp.mem_iff.mpr h
  refine ⟨⟨vP_iff.mpr (fun q hq => vP_iff.mp h1 q (hm q hq)), vD_iff.mpr ⟨nd_pm hp (vD_iff.mp h2).1, fun q hq => (vD_iff.mp h2).2 q (hm q hq)⟩, h3⟩, h4.next (fun _ _ _ => rfl) (fun q h => ?_) (Vm.Alike.refl _)⟩
  rcases h with ⟨k, e, h⟩ | h
  · obtain ⟨i, hi⟩ := List.getElem?_of_mem (hm _ (List.mem_of_getElem? h))
    exact Or.inl ⟨i, e, hi⟩
  · exact Or.inr h
theorem rl_V (lc : LwC p s m meth c b L xs G) (hs : LwS s G S H locs ws) (M : Met l y (.code y bytes maxL ret :: lw_g) rm (PreC G S H.size (.ref a :: As) ws) Qc rm.cells rm.slots free) (mv : MV RL index y bytes maxL ret n) {ci N : Nat} {T : u_T} {fs : List Value} (he : (a, (.inr (ci, fs) : va_E)) ∈ ws) (hc : vwCl[ci]? = some (y.cls, T, N))
    (hR : rm.frames + 1 ≤ room_1.frames ∧ 8 + (maxL + 11) + rm.locals ≤ room_1.locals) (hn : As.length = n) (hsize : ls.size = 4) (hst : st0 = As.reverse ++ .ref a :: rest) (hW : (rest.map fun v => v.category).sum ≤ 8) (d : decode code pc = .ok (.invokevirtual index, 3)) (hf : cells + rm.cells ≤ room_1.cells ∧ slots + rm.slots ≤ room_1.slots) :
    va_Run p l e room_1 s m #[Value.ref b] below meth c H locs cells slots rm.cells rm.slots (F0 m pc ls st0) rest (Qc (Value.ref a :: As).toArray) free := by
  have ok := lc.ok
  obtain ⟨q0, hq0⟩ := List.getElem?_of_mem he
  exact va_runV (As := As) (b := a) (C := y.cls) lc.fix M ⟨callB_of n ok (wd_code mv.2.2.2.2.1) rfl rfl rfl (ok _ mv.2.2.2.1) (ok _ mv.1) mv.2.2.2.2.2 hR, ok _ mv.2.1, ok _ mv.2.2.1⟩ ⟨pre_blind, va_recv lc.2.1 hs.1.1 (ci := ci) (q0 := q0) hc hq0, fun U hU hW => ⟨rfl, by rw [hU], by rw [hU]; exact hs.1.1, ⟨va_K.moved hW.alike lc.2.1, lc.ef hs hU hW⟩, hs.1.2.1.weaken (fun _ _ _ _ => trivial)⟩⟩ rfl hn hsize hst (lv_room hW) d hf
theorem ll_I {v : Int} (lc : LwC p s m meth c b L xs G) (hs : LwS s G S H locs ws) (M : CtI l y bytes maxL .int rm G S H.size (.ref a :: As) ws v w1) (mv : MV RL index y bytes maxL (some .int) n) {ci N : Nat} {T : u_T} {fs : List Value} (he : (a, (.inr (ci, fs) : va_E)) ∈ ws) (hc : vwCl[ci]? = some (y.cls, T, N))
    (hR : rm.frames + 1 ≤ room_1.frames ∧ 8 + (maxL + 11) + rm.locals ≤ room_1.locals) (hn : As.length = n) (hsize : ls.size = 4) (hst : st0 = As.reverse ++ .ref a :: rest) (hW : (rest.map fun v => v.category).sum ≤ 8) (d : decode code pc = .ok (.invokevirtual index, 3)) (hf : cells + rm.cells ≤ room_1.cells ∧ slots + rm.slots ≤ room_1.slots)
    (kk : ∀ H1 locs1, LwS s G S H1 locs1 w1 → W p l e room_1 s m #[Value.ref b] below meth c H1 locs1 (cells + rm.cells) (slots + rm.slots) Q (F0 m (pc + 3) ls (.int (kI v) :: rest))) : W p l e room_1 s m #[Value.ref b] below meth c H locs cells slots Q (F0 m pc ls st0) := by
  have hr : va_Run p l e room_1 s m #[Value.ref b] below meth c H locs cells slots rm.cells rm.slots (F0 m pc ls st0) rest (QcI G (va_A ws H.size) v w1 (Value.ref a :: As).toArray) (va_A ws H.size) := rl_V lc hs M mv he hc hR hn hsize hst hW d hf
  refine va_calli hr hs.1.2.2.1 (fun q _ h => hs.A q h) hs.A (fun r u t H1 locs1 ht hvm hpost hB hz hk hS => ?_)
  have hpost : r = _ := hpost
  rw [hpost]
  exact kk H1 locs1 (hs.next ht hB hz hk hS)
theorem ll_L {v : Int} (lc : LwC p s m meth c b L xs G) (hs : LwS s G S H locs ws) (M : CtL l y bytes maxL rm G S H.size (.ref a :: As) ws v w1) (mv : MV RL index y bytes maxL (some .long) n) {ci N : Nat} {T : u_T} {fs : List Value} (he : (a, (.inr (ci, fs) : va_E)) ∈ ws) (hc : vwCl[ci]? = some (y.cls, T, N))
    (hR : rm.frames + 1 ≤ room_1.frames ∧ 8 + (maxL + 11) + rm.locals ≤ room_1.locals) (hn : As.length = n) (hsize : ls.size = 4) (hst : st0 = As.reverse ++ .ref a :: rest) (hW : (rest.map fun v => v.category).sum ≤ 8) (d : decode code pc = .ok (.invokevirtual index, 3)) (hf : cells + rm.cells ≤ room_1.cells ∧ slots + rm.slots ≤ room_1.slots)
    (kk : ∀ H1 locs1, LwS s G S H1 locs1 w1 → W p l e room_1 s m #[Value.ref b] below meth c H1 locs1 (cells + rm.cells) (slots + rm.slots) Q (F0 m (pc + 3) ls (.long (kL v) :: rest))) : W p l e room_1 s m #[Value.ref b] below meth c H locs cells slots Q (F0 m pc ls st0) := by
  have hr : va_Run p l e room_1 s m #[Value.ref b] below meth c H locs cells slots rm.cells rm.slots (F0 m pc ls st0) rest (QcL G (va_A ws H.size) v w1 (Value.ref a :: As).toArray) (va_A ws H.size) := rl_V lc hs M mv he hc hR hn hsize hst hW d hf
  refine va_calll hr hs.1.2.2.1 (fun q _ h => hs.A q h) hs.A (fun r u t H1 locs1 ht hvm hpost hB hz hk hS => ?_)
  have hpost : r = _ := hpost
  rw [hpost]
  exact kk H1 locs1 (hs.next ht hB hz hk hS)
theorem ll_Ix {v : Int} {wx : (Nat → Nat) → va_W} (lc : LwC p s m meth c b L xs G) (hs : LwS s G S H locs ws) (M : CtIx l y bytes maxL .int rm G S H.size (.ref a :: As) ws v wx) (mv : MV RL index y bytes maxL (some .int) n) {ci N : Nat} {T : u_T} {fs : List Value} (he : (a, (.inr (ci, fs) : va_E)) ∈ ws) (hc : vwCl[ci]? = some (y.cls, T, N))
    (hR : rm.frames + 1 ≤ room_1.frames ∧ 8 + (maxL + 11) + rm.locals ≤ room_1.locals) (hn : As.length = n) (hsize : ls.size = 4) (hst : st0 = As.reverse ++ .ref a :: rest) (hW : (rest.map fun v => v.category).sum ≤ 8) (d : decode code pc = .ok (.invokevirtual index, 3)) (hf : cells + rm.cells ≤ room_1.cells ∧ slots + rm.slots ≤ room_1.slots)
    (kk : ∀ u H1 locs1, LwS s G S H1 locs1 (wx u) → W p l e room_1 s m #[Value.ref b] below meth c H1 locs1 (cells + rm.cells) (slots + rm.slots) Q (F0 m (pc + 3) ls (.int (kI v) :: rest))) : W p l e room_1 s m #[Value.ref b] below meth c H locs cells slots Q (F0 m pc ls st0) := by
  have hr : va_Run p l e room_1 s m #[Value.ref b] below meth c H locs cells slots rm.cells rm.slots (F0 m pc ls st0) rest (QcIx G (va_A ws H.size) v wx (Value.ref a :: As).toArray) (va_A ws H.size) := rl_V lc hs M mv he hc hR hn hsize hst hW d hf
  refine va_calli hr hs.1.2.2.1 (fun q _ h => hs.A q h) hs.A (fun r u t H1 locs1 ht hvm hpost hB hz hk hS => ?_)
  have hpost : r = _ := hpost
  rw [hpost]
  exact kk u H1 locs1 (hs.next ht hB hz hk hS)
theorem ll_Lx {v : Int} {wx : (Nat → Nat) → va_W} (lc : LwC p s m meth c b L xs G) (hs : LwS s G S H locs ws) (M : CtLx l y bytes maxL rm G S H.size (.ref a :: As) ws v wx) (mv : MV RL index y bytes maxL (some .long) n) {ci N : Nat} {T : u_T} {fs : List Value} (he : (a, (.inr (ci, fs) : va_E)) ∈ ws) (hc : vwCl[ci]? = some (y.cls, T, N))
    (hR : rm.frames + 1 ≤ room_1.frames ∧ 8 + (maxL + 11) + rm.locals ≤ room_1.locals) (hn : As.length = n) (hsize : ls.size = 4) (hst : st0 = As.reverse ++ .ref a :: rest) (hW : (rest.map fun v => v.category).sum ≤ 8) (d : decode code pc = .ok (.invokevirtual index, 3)) (hf : cells + rm.cells ≤ room_1.cells ∧ slots + rm.slots ≤ room_1.slots)
    (kk : ∀ u H1 locs1, LwS s G S H1 locs1 (wx u) → W p l e room_1 s m #[Value.ref b] below meth c H1 locs1 (cells + rm.cells) (slots + rm.slots) Q (F0 m (pc + 3) ls (.long (kL v) :: rest))) : W p l e room_1 s m #[Value.ref b] below meth c H locs cells slots Q (F0 m pc ls st0) := by
  have hr : va_Run p l e room_1 s m #[Value.ref b] below meth c H locs cells slots rm.cells rm.slots (F0 m pc ls st0) rest (QcLx G (va_A ws H.size) v wx (Value.ref a :: As).toArray) (va_A ws H.size) := rl_V lc hs M mv he hc hR hn hsize hst hW d hf
  refine va_calll hr hs.1.2.2.1 (fun q _ h => hs.A q h) hs.A (fun r u t H1 locs1 ht hvm hpost hB hz hk hS => ?_)
  have hpost : r = _ := hpost
  rw [hpost]
  exact kk u H1 locs1 (hs.next ht hB hz hk hS)
theorem ll_V {wx : (Nat → Nat) → va_W} (lc : LwC p s m meth c b L xs G) (hs : LwS s G S H locs ws) (M : CtVx l y bytes maxL rm G S H.size (.ref a :: As) ws wx) (mv : MI RL index y bytes maxL n)
    (hR : rm.frames + 1 ≤ room_1.frames ∧ 8 + (maxL + 11) + rm.locals ≤ room_1.locals) (hn : As.length = n) (hsize : ls.size = 4) (hst : st0 = As.reverse ++ .ref a :: rest) (hW : (rest.map fun v => v.category).sum ≤ 8) (d : decode code pc = .ok (.invokespecial index, 3)) (hf : cells + rm.cells ≤ room_1.cells ∧ slots + rm.slots ≤ room_1.slots)
    (kk : ∀ u H1 locs1, LwS s G S H1 locs1 (wx u) → W p l e room_1 s m #[Value.ref b] below meth c H1 locs1 (cells + rm.cells) (slots + rm.slots) Q (F0 m (pc + 3) ls rest)) : W p l e room_1 s m #[Value.ref b] below meth c H locs cells slots Q (F0 m pc ls st0) := by
  have ok := lc.ok
  have hr : va_Run p l e room_1 s m #[Value.ref b] below meth c H locs cells slots rm.cells rm.slots (F0 m pc ls st0) rest (QcVx G (va_A ws H.size) wx (Value.ref a :: As).toArray) (va_A ws H.size) := va_runI (As := As) (b := a) lc.fix M ⟨callB_of n ok (wd_code mv.2.2.2.1) rfl rfl rfl (ok _ mv.2.2.1) (ok _ mv.1) mv.2.2.2.2.2 hR, mv.2.2.2.2.1, ok _ mv.2.1⟩ ⟨pre_blind, fun U hU hW => ⟨rfl, by rw [hU], by rw [hU]; exact hs.1.1, ⟨va_K.moved hW.alike lc.2.1, lc.ef hs hU hW⟩, hs.1.2.1.weaken (fun _ _ _ _ => trivial)⟩⟩ rfl hn hsize hst (lv_room hW) d hf
  refine va_callv hr hs.1.2.2.1 (fun q _ h => hs.A q h) hs.A (fun u t H1 locs1 ht hvm hpost hB hz hk hS => ?_)
  exact kk u H1 locs1 (hs.next ht hB hz hk hS)
/-- the script's int k places behind i -/
theorem ll_arg {i k : Nat} {z : Int} {v1 v2 : Value} (lc : LwC p s m meth c b L xs G) (hL : L ≤ 3072) (hs : LwS s G S H locs ws) (hl : lv_has ls 4 [(0, .ref b), (1, v1), (2, v2), (3, .int (kI (i : Int)))]) (hk : i + k < L) (hz : (k : Int) = z) (d0 : decode code pc = .ok (.aload_n 0, 1)) (d1 : decode code (pc + 1) = .ok (.iload_n 3, 1)) (d2 : decode code (pc + 2) = .ok (.iconst z, 1)) (d3 : decode code (pc + 3) = .ok (.iadd, 1)) (d4 : decode code (pc + 4) = .ok (.iaload, 1)) (kk : W p l e room_1 s m #[Value.ref b] below meth c H locs cells slots Q (F0 m (pc + 5) ls (.int (kI (xs (i + k)).toInt) :: rest))) : W p l e room_1 s m #[Value.ref b] below meth c H locs cells slots Q (F0 m pc ls rest) := by
  obtain ⟨hx, hb, -, -, -, -, hX, hbl, -⟩ := id lc.1
  have hbA : ¬ (fun q : Nat => s.heap.size ≤ q) b := Nat.not_le.mpr hbl
  subst hz
  have e0 : (i : Int) + (k : Int) = ((i + k : Nat) : Int) := by omega
  have hr : rI ((i + k : Nat) : Int) := by constructor <;> omega
  refine lv_aload_n hx hb d0 rfl (lv_at hl 0 rfl) ?_
  refine lv_iload_n hx hb d1 rfl (lv_at hl 3 rfl) ?_
  refine lv_iconst (v := kI (k : Int)) hx hb d2 rfl ?_
  refine ri_iadd hx hb d3 ?_
  rw [e0]
  refine va_sld hx hb hX hbl hbA hs.1.2.2.1 (kI_in (by omega) (by omega) (by omega)) d4 ?_
  rw [kI_clamp hr (by omega), show ((i + k : Nat) : Int).toNat = i + k by omega]
  rw [kI_of] at kk
  exact kk
theorem ll_eqI {v off : Int} (lc : LwC p s m meth c b L xs G) (d : decode code pc = .ok (.if_icmp .eq off, 3)) (ht : (pc : Int) + off = ((1617 : Nat) : Int)) (kk : W p l e room_1 s m #[Value.ref b] below meth c H locs cells slots Q (F0 m 1617 ls rest)) : W p l e room_1 s m #[Value.ref b] below meth c H locs cells slots Q (F0 m pc ls (.int (kI v) :: .int (kI v) :: rest)) := lv_icmp_eq (tgt := 1617) lc.1.1 lc.1.2.1 d ht (fun _ => kk) (fun h => absurd rfl h)
theorem lg_self (x : Int64) : lg_cmp x x = 0 := by
  have h : ¬ x < x := by rw [Int64.lt_iff_toInt_lt]; omega
  simp [lg_cmp, h]
theorem ll_eqL {v off : Int} (lc : LwC p s m meth c b L xs G) (d0 : decode code pc = .ok (.lcmp, 1)) (d : decode code (pc + 1) = .ok (.ifCond .eq off, 3)) (ht : ((pc + 1 : Nat) : Int) + off = ((1617 : Nat) : Int)) (kk : W p l e room_1 s m #[Value.ref b] below meth c H locs cells slots Q (F0 m 1617 ls rest)) : W p l e room_1 s m #[Value.ref b] below meth c H locs cells slots Q (F0 m pc ls (.long (kL v) :: .long (kL v) :: rest)) := by
  refine W.lcmp lc.1.1 lc.1.2.1 d0 ?_
  rw [lg_self]
  exact lv_if_eq (tgt := 1617) lc.1.1 lc.1.2.1 d ht (fun _ => kk) (fun h => absurd rfl h)
/-- the seed of a drawing: two ints, one long -/
def sdV (x y : Int32) : Int := ((x.toInt64 <<< ((32 : Int32).toInt64 &&& 63)) ||| (y.toInt64 &&& 4294967295)).toInt
theorem ll_seed {i : Nat} {v1 v2 : Value} (lc : LwC p s m meth c b L xs G) (hL : L ≤ 3072) (hs : LwS s G S H locs ws) (hl : lv_has ls 4 [(0, .ref b), (1, v1), (2, v2), (3, .int (kI (i : Int)))]) (hk : i + 6 ≤ L) (hc : Cond.constantLong RL 132 4294967295 ∈ lw_g)
    (d0 : decode code pc = .ok (.aload_n 0, 1)) (d1 : decode code (pc + 1) = .ok (.iload_n 3, 1)) (d2 : decode code (pc + 2) = .ok (.iconst 1, 1)) (d3 : decode code (pc + 3) = .ok (.iadd, 1)) (d4 : decode code (pc + 4) = .ok (.iaload, 1)) (d5 : decode code (pc + 5) = .ok (.i2l, 1)) (d6 : decode code (pc + 6) = .ok (.bipush 32, 2)) (d8 : decode code (pc + 8) = .ok (.lshl, 1))
    (d9 : decode code (pc + 9) = .ok (.aload_n 0, 1)) (d10 : decode code (pc + 10) = .ok (.iload_n 3, 1)) (d11 : decode code (pc + 11) = .ok (.iconst 2, 1)) (d12 : decode code (pc + 12) = .ok (.iadd, 1)) (d13 : decode code (pc + 13) = .ok (.iaload, 1)) (d14 : decode code (pc + 14) = .ok (.i2l, 1)) (d15 : decode code (pc + 15) = .ok (.ldc2_w 132, 3)) (d18 : decode code (pc + 18) = .ok (.land, 1)) (d19 : decode code (pc + 19) = .ok (.lor, 1))
    (kk : W p l e room_1 s m #[Value.ref b] below meth c H locs cells slots Q (F0 m (pc + 20) ls (.long (kL (sdV (xs (i + 1)) (xs (i + 2)))) :: rest))) : W p l e room_1 s m #[Value.ref b] below meth c H locs cells slots Q (F0 m pc ls rest) := by
  have hx := lc.1.1
  have hb := lc.1.2.1
  refine ll_arg (k := 1) lc hL hs hl (by omega) rfl d0 d1 d2 d3 d4 ?_
  rw [kI_of]
  refine lv_i2l hx hb d5 rfl ?_
  refine lv_bipush (v := 32) hx hb d6 (by decide) ?_
  refine lv_lshl hx hb d8 rfl ?_
  refine ll_arg (k := 2) lc hL hs hl (by omega) rfl d9 d10 d11 d12 d13 ?_
  rw [kI_of]
  refine lv_i2l hx hb d14 rfl ?_
  refine lv_ldc2 hx hb lc.1.2.2.2.2.1 (lc.ok _ hc) d15 ?_
  refine lv_land hx hb d18 ?_
  refine lv_lor hx hb d19 ?_
  refine w_stk (y := .long (kL (sdV (xs (i + 1)) (xs (i + 2))))) ?_ kk
  unfold sdV
  rw [kL_of]
/-- the law's end -/
theorem ll_end (lc : LwC p s m meth c b L xs G) (hs : LwS s G S H locs ws) (hc : cells ≤ 600000) (hl : slots ≤ 7302250) (d0 : decode code pc = .ok (.iconst 1, 1)) (d1 : decode code (pc + 1) = .ok (.ireturn, 1)) : W p l e room_1 s m #[Value.ref b] below meth c H locs cells slots (lw_Z below #[Value.ref b] s) (F0 m pc ls []) :=
  lv_iconst (v := 1) lc.1.1 lc.1.2.1 d0 (by decide) (va_forget hs.1.2.2.1.2.2 (W.widen hc hl (W.base (lw_ret (Drawn.sameBut.refl s.drawn lw_cs) lc.1.1 lc.1.2.1 lc.1.2.2.1 lc.1.2.2.2.2.2.2.2.2.1 d1))))
/-- what a case goes on with -/
def LwK (p : Program) (l : Launch) (e : Env) (s : State) (m : MethodId) (below : List Frame) (meth : Method) (c : Code) (G : GG) (b a b' : Nat) (z : Int) (cells slots : Nat) (Q : State → Prop) (ls : Array Slot) : Prop := ∀ (S : SM) (X Y : va_W) (H : Heap) (locs : List Loc), LwS s G S H locs (X ++ Y) → Inv G S z a b' X Y → W p l e room_1 s m #[Value.ref b] below meth c H locs cells slots Q (F0 m 1617 ls [])
theorem sm_of {A : Nat → Prop} {fs : List Value} {o k : Nat} (ok : ∀ w ∈ lw_g, w.before #[Value.ref b] s = true) (hK : va_K G.1 vwCl (tyG G) s) (hat : va_at G.1 vwCl (o, .inr (8, fs)) H) (hk : k < 4) (hA : ¬ A o) : va_OF (TX9 k).1 (TX9 k).2.1 (TX9 k).2.2.1 (vp_V fs k) o A s H := by
  obtain ⟨r, hr, cell, h1, h2, h3, h4⟩ := (hat : ∃ r : vw_C, vwCl[8]? = some r ∧ t_OB o (G.1.1 8) r.2.2 (G.1.2 8) H (vp_V fs))
  have hr : r = (RX9, TX9, 4) := (Option.some.inj hr).symm
  subst hr
  obtain ⟨hS, hfc, kC, hkC, -⟩ := hK.1 8 (RX9, TX9, 4) rfl
  obtain ⟨cf, kf, fi, fd, hi, he⟩ := hS k hk
  exact ⟨cf, kf, fi, fd, cell, hi, (u_facts hfc hkC (u_lays ok inX9 hk) hi).1, h1, (by rw [h3]; exact fun e => by cases e), by rw [he]; exact h4 k hk, hA⟩
theorem sm_o {A : Nat → Prop} {fs : List Value} {o : Nat} (hK : va_K G.1 vwCl (tyG G) s) (hat : va_at G.1 vwCl (o, .inr (8, fs)) H) (hA : ¬ A o) : va_O "RiskBands$Sample" o A s H := by
  obtain ⟨r, hr, cell, h1, h2, h3, h4⟩ := (hat : ∃ r : vw_C, vwCl[8]? = some r ∧ t_OB o (G.1.1 8) r.2.2 (G.1.2 8) H (vp_V fs))
  obtain ⟨hS, hfc, -⟩ := hK.1 8 (RX9, TX9, 4) rfl
  exact ⟨cell, h1, by rw [h3]; rfl, by rw [h2]; exact hfc, hA⟩
theorem sm_t {A : Nat → Prop} {k : Int} {f : Int → Int} {o : Nat} (hK : va_K G.1 vwCl (tyG G) s) (hat : va_at G.1 vwCl (o, cAI G k.toNat f) H) (hA : ¬ A o) : va_T .int o k.toNat (fun j => .int (kI (f (j : Int)))) A s H := by
  have h1 : H[o]? = some (arrV (G.2.1 0) k.toNat (fun j => .int (aI f j))) := hat
  exact ⟨_, h1, (hK.2 0 (G.2.1 0, .int) rfl).1 _ _, (fun e => by cases e), Nat.le_of_eq (arrV_size _ _ _).symm, by rw [arrV_size] <;> rfl, fun j hj => arrV_read _ _ hj, hA⟩
/-- a sample that was made is no longer one of the cells -/
theorem LwS.sm {u : Nat → Nat} {k t : Int} {f g : Int → Int} (lc : LwC p s m meth c b L xs G) (hk : 0 ≤ k ∧ k ≤ 60) (hs : LwS s G S H locs (ws ++ nwS G u k t f g)) : (∀ q, S.1 q = true → q ≠ u 0) ∧ LwS s G (addS S (u 0) (u 1) (u 2) k t f g) H locs ws := by
  obtain ⟨⟨hP, hD, hSS⟩, hsm⟩ := hs
  have hD' := vD_iff.mp hD
  have hn := hD'.1
  rw [List.map_append, List.nodup_append] at hn
  have hout : ∀ q ∈ nwS G u k t f g, ¬ va_A ws H.size q.1 := fun q hq h => by
    rcases h with ⟨i, e, h⟩ | h
    · exact hn.2.2 q.1 (List.mem_map.mpr ⟨(q.1, e), List.mem_of_getElem? h, rfl⟩) q.1 (List.mem_map.mpr ⟨q, hq, rfl⟩) rfl
    · have hlt : q.1 < H.size := va_at.lt (vP_iff.mp hP q (List.mem_append_right _ hq))
      omega
  have m0 : ((u 0), (.inr (8, [.ref (u 1), .ref (u 2), .int (kI k), .int (kI t)]) : va_E)) ∈ nwS G u k t f g := List.mem_cons_self
  have m1 : ((u 1), cAI G k.toNat f) ∈ nwS G u k t f g := List.mem_cons_of_mem _ List.mem_cons_self
  have m2 : ((u 2), cAI G k.toNat g) ∈ nwS G u k t f g := List.mem_cons_of_mem _ (List.mem_cons_of_mem _ List.mem_cons_self)
  have a0 := vP_iff.mp hP _ (List.mem_append_right _ m0)
  have a1 := vP_iff.mp hP _ (List.mem_append_right _ m1)
  have a2 := vP_iff.mp hP _ (List.mem_append_right _ m2)
  have hsub : ∀ q, va_A ws H.size q → va_A (ws ++ nwS G u k t f g) H.size q := fun q h => by
    rcases h with ⟨i, e, h⟩ | h
    · obtain ⟨j, hj⟩ := List.getElem?_of_mem (List.mem_append_left (nwS G u k t f g) (List.mem_of_getElem? h))
      exact Or.inl ⟨j, e, hj⟩
    · exact Or.inr h
  have hfr : ∀ q, S.1 q = true → q ≠ u 0 := fun q hq e => by
    obtain ⟨cell, -, -, -, h⟩ := (hsm q hq).1.1
    subst e
    obtain ⟨j, hj⟩ := List.getElem?_of_mem (List.mem_append_right ws m0)
    exact h (Or.inl ⟨j, _, hj⟩)
  refine ⟨hfr, ⟨vP_iff.mpr (fun q hq => vP_iff.mp hP q (List.mem_append_left _ hq)), vD_iff.mpr ⟨hn.1, fun q hq => hD'.2 q (List.mem_append_left _ hq)⟩, hSS⟩, fun a ha => ?_⟩
  by_cases e : a = u 0
  · subst e
    obtain ⟨e1, e2, e3, e4, e5, e6, e7⟩ := addS_s (S := S) (o := u 0) (p := u 1) (q := u 2) (k := k) (t := t) (f := f) (g := g)
    rw [e2, e3, e4, e5, e6, e7]
    exact ⟨⟨sm_o lc.2.1 a0 (hout _ m0), sm_of (k := 0) lc.ok lc.2.1 a0 (by decide) (hout _ m0), sm_of (k := 1) lc.ok lc.2.1 a0 (by decide) (hout _ m0), sm_of (k := 2) lc.ok lc.2.1 a0 (by decide) (hout _ m0), sm_of (k := 3) lc.ok lc.2.1 a0 (by decide) (hout _ m0)⟩, ⟨hk.1, by omega⟩, sm_t lc.2.1 a1 (hout _ m1), sm_t lc.2.1 a2 (hout _ m2)⟩
  · obtain ⟨e1, e2, e3, e4, e5, e6, e7⟩ := addS_o (S := S) (o := u 0) (p := u 1) (q := u 2) (k := k) (t := t) (f := f) (g := g) e
    rw [e1] at ha
    rw [e2, e3, e4, e5, e6, e7]
    obtain ⟨⟨h1, h2, h3, h4, h5⟩, h6, h7, h8⟩ := hsm a ha
    exact ⟨⟨h1.narrow hsub, h2.narrow hsub, h3.narrow hsub, h4.narrow hsub, h5.narrow hsub⟩, h6, h7.narrow hsub, h8.narrow hsub⟩
end
