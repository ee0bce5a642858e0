theorem jw_c316 : Cond.methodLink RJ7 316 ⟨"[I", "clone", "()Ljava/lang/Object;"⟩ ∈ lw_g := lw_in 433 (by decide +kernel) (by decide +kernel)
theorem jw_same : Cond.sameMethod "[I" "java/lang/Object" "clone" "()Ljava/lang/Object;" ∈ lw_g := lw_in 434 (by decide +kernel) (by decide +kernel)
theorem jw_cn : Cond.native ⟨"java/lang/Object", "clone", "()Ljava/lang/Object;"⟩ ∈ lw_g := lw_in 435 (by decide +kernel) (by decide +kernel)
theorem jw_ci : Cond.instanceMethod ⟨"java/lang/Object", "clone", "()Ljava/lang/Object;"⟩ ∈ lw_g := lw_in 436 (by decide +kernel) (by decide +kernel)
theorem jw_cs : Cond.selects "[I" ⟨"[I", "clone", "()Ljava/lang/Object;"⟩ ⟨"java/lang/Object", "clone", "()Ljava/lang/Object;"⟩ ∈ lw_g := lw_in 437 (by decide +kernel) (by decide +kernel)
theorem jw_c317 : Cond.classLink RJ7 317 "[I" ∈ lw_g := lw_in 439 (by decide +kernel) (by decide +kernel)
theorem jw_304 : Cond.methodLink RJ7 304 Lib.Math.min.name ∈ lw_g := lw_in 440 (by decide +kernel) (by decide +kernel)
theorem jw_150 : Cond.methodLink RJ7 150 arraycopyName ∈ lw_g := lw_in 443 (by decide +kernel) (by decide +kernel)
def QcR (G : GG) (A : Nat → Prop) (w1 : Nat → va_W) := va_Qr (S := Unit) (fun _ => True) (fun _ a t => WB G A (w1 a) t) A
def CtR (l : Launch) (y : MethodName) (cc : ByteArray) (maxL : Nat) (ret : FieldType) (rm : Room) (G : GG) (S : SM) (sz : Nat) (av : List Value) (ws : va_W) (w1 : Nat → va_W) : Prop := Met l y (.code y cc maxL (some ret) :: lw_g) rm (PreC G S sz av ws) (QcR G (va_A ws sz) w1) rm.cells rm.slots (va_A ws sz)
theorem re_r {p : Program} {l : Launch} {e : Env} {R : Room} {s : State} {m : MethodId} {args : Array Value} {below : List Frame} {meth : Method} {c : Code} {H : Heap} {locs : List Loc} {cells slots : Nat} {cc : ByteArray} {pc : Nat} {ls : Array Slot} {own : String} {nL : Nat} {G : GG} {S : SM} {A : Nat → Prop} {w1 : Nat → va_W} {rt : FieldType} {a : Nat} (hrt : (∃ n, rt = .object n) ∨ ∃ t, rt = .array t) (hx : p.tables.exec = Jvm.exec) (hb : c.code = cc) (hlk : meth.locks = false) (hr : meth.sig.returnType = some rt) (cx : CX p s m args c cc own nL G S A) (hw : HP G A s.heap H locs (w1 a)) (hc : cells ≤ R.cells) (hs : slots ≤ R.slots) (d : decode cc pc = .ok (.areturn, 1)) : W p l e R s m args below meth c H locs cells slots (MQ below (QcR G A w1) args s R.cells R.slots A) (F0 m pc ls [.ref a]) :=
  W.widen hc hs (W.aret hx hb hr hrt (Or.inr ⟨a, rfl⟩) (fun t ht hW => ⟨⟨(), a, rfl, trivial, by rw [ht]; exact hw.1, va_K.moved hW.alike cx.2.1, hw.2.1⟩, hw.2.2.1.F ht⟩) hw.2.2.1.2.2 d hlk)
set_option maxHeartbeats 4000000 in
theorem c_J7_copyOf (l : Launch) (G : GG) (S : SM) (sz : Nat) (a0 n0 : Nat) (f : Int → Int) (x1 : Int) (hn : n0 ≤ 60) (h1 : 0 ≤ x1 ∧ x1 ≤ 60) : CtR l yJ7_copyOf_59c91 cJ7_copyOf_59c91 3 (.array .int) (rmD 2 1 60) G S sz [.ref a0, .int (kI x1)] [(a0, cAI G n0 f)] (fun q => [(a0, cAI G n0 f), (q, cAI G x1.toNat (cpO f n0 x1))]) := by
  have hr1 : rI x1 := by constructor <;> omega
  have hr0 : rI (n0 : Int) := by constructor <;> omega
  have z0 : rI 0 := ⟨by decide, by decide⟩
  refine met_of (Qc := fun A => QcR G A (fun q => [(a0, cAI G n0 f), (q, cAI G x1.toNat (cpO f n0 x1))])) (by decide +kernel) (Nat.le_of_ble_eq_true rfl) ?_
  intro p e s m args below meth c A H locs ls cx hw hr hlk hnm hl
  have hl : lv_has ls 3 [(0, .ref a0), (1, .int (kI x1))] := hl
  obtain ⟨⟨hx, hb, -, -, -⟩, -⟩ := id cx
  have ok := cx.1.2.2.2.2
  have hcI : s.vm.findClass "[I" = some (G.2.1 0) := (cx.2.1.2 0 _ rfl).2
  refine lv_iload_n hx hb dJ7_copyOf_59c91_0 rfl (lv_at hl 1 rfl) ?_
  refine lv_aload_n hx hb dJ7_copyOf_59c91_1 rfl (lv_at hl 0 rfl) ?_
  refine ra_len hx hb cx hw 0 rfl dJ7_copyOf_59c91_2 ?_
  refine ri_icmp_ne (tgt := 14) hx hb hr1 hr0 dJ7_copyOf_59c91_3 (by decide) (fun c1 => ?_) (fun c1 => ?_)
  · refine lv_aload_n hx hb dJ7_copyOf_59c91_6 rfl (lv_at hl 0 rfl) ?_
    refine va_clone hx hb (cx.1.2.2.1.trans hl.1.symm) cx.1.2.2.2.1 (ad := "[I") (ok _ jw_c316) (ok _ jw_same) (ok _ jw_cn) (ok _ jw_ci) (ok _ jw_cs) cx.2.2.2.2.2.ca cx.2.1 hw.1 hw.2.1 hw.2.2.1 hw.2.2.2 0 0 (x := (n0, .inl (aI f))) (ty := .int) rfl rfl hcI (fun i v h => ?_) (Nat.le_of_ble_eq_true rfl) (Nat.le_of_ble_eq_true rfl) (Nat.le_of_ble_eq_true rfl) (by show 0 + n0 ≤ 60; omega) dJ7_copyOf_59c91_7 (fun q H1 e0 e1 e2 e3 => ?_)
    · rw [vp_cell_i] at h
      by_cases hi : i < n0
      · have := arrV_read (G.2.1 0) (fun j => Value.int (aI f j)) hi
        rw [this] at h
        cases h
        rfl
      · exfalso
        have h2 := (Array.getElem?_eq_some_iff.mp h).1
        rw [arrV_size] at h2
        exact hi h2
    · have hw : HP G A s.heap H1 locs [(a0, cAI G n0 f), (q, cAI G n0 f)] := ⟨e1, e2, e3, hw.2.2.2⟩
      refine W.widen (k := 1) (n := 60) (Nat.le_of_ble_eq_true rfl) (by show 0 + n0 ≤ 60; omega) ?_
      refine va_castA hx hb cx.1.2.2.2.1 (ok _ jw_c317) hw.1 1 rfl hcI dJ7_copyOf_59c91_10 ?_
      have hz : x1.toNat = n0 := by omega
      have hg : cpO f n0 x1 = f := if_pos c1
      have hw : HP G A s.heap H1 locs ((fun q => [(a0, cAI G n0 f), (q, cAI G x1.toNat (cpO f n0 x1))]) q) := by
        show HP G A s.heap H1 locs [(a0, cAI G n0 f), (q, cAI G x1.toNat (cpO f n0 x1))]
        rw [hz, hg]; exact hw
      exact re_r (Or.inr ⟨_, rfl⟩) hx hb hlk hr cx hw (Nat.le_of_ble_eq_true rfl) (Nat.le_of_ble_eq_true rfl) dJ7_copyOf_59c91_13
  · refine lv_iload_n hx hb dJ7_copyOf_59c91_14 rfl (lv_at hl 1 rfl) ?_
    refine ra_newI hx hb cx hw ⟨h1.1, by omega⟩ (Nat.le_of_ble_eq_true rfl) (by show 0 + x1.toNat ≤ 60; omega) dJ7_copyOf_59c91_15 (fun q H hw => ?_)
    have hw : HP G A s.heap H locs [(a0, cAI G n0 f), (q, cAI G x1.toNat (fun _ => 0))] := hw
    refine W.widen (k := 1) (n := 60) (Nat.le_of_ble_eq_true rfl) (by show 0 + x1.toNat ≤ 60; omega) ?_
    refine lv_astore_n (lv' := [(2, .ref q), (0, .ref a0), (1, .int (kI x1))]) hx hb dJ7_copyOf_59c91_17 rfl hl (by decide) rfl (fun ls hl => ?_)
    refine lv_aload_n hx hb dJ7_copyOf_59c91_18 rfl (lv_at hl 1 rfl) ?_
    refine ri_iconst hx hb dJ7_copyOf_59c91_19 ?_
    refine lv_aload_n hx hb dJ7_copyOf_59c91_20 rfl (lv_at hl 0 rfl) ?_
    refine ri_iconst hx hb dJ7_copyOf_59c91_21 ?_
    refine lv_aload_n hx hb dJ7_copyOf_59c91_22 rfl (lv_at hl 1 rfl) ?_
    refine ra_len hx hb cx hw 0 rfl dJ7_copyOf_59c91_23 ?_
    refine lv_iload_n hx hb dJ7_copyOf_59c91_24 rfl (lv_at hl 2 rfl) ?_
    refine rj_min hr0 hr1 hx hb cx hl.1 jw_304 (Nat.le_of_ble_eq_true rfl) (Nat.le_of_ble_eq_true rfl) (Nat.le_of_ble_eq_true rfl) (Nat.le_of_ble_eq_true rfl) dJ7_copyOf_59c91_25 ?_
    have hm0 : rI (min (n0 : Int) x1) := by constructor <;> omega
    refine rj_copy hx hb cx hl.1 hw jw_150 0 1 rfl rfl z0 z0 hm0 ⟨⟨by omega, by omega, by omega⟩, by omega, by omega⟩ (Nat.le_of_ble_eq_true rfl) (Nat.le_of_ble_eq_true rfl) dJ7_copyOf_59c91_28 (fun H locs hw => ?_)
    have hg : cpO f n0 x1 = cP f (fun _ => 0) 0 0 (min (n0 : Int) x1) := if_neg c1
    have hw : HP G A s.heap H locs ((fun q => [(a0, cAI G n0 f), (q, cAI G x1.toNat (cpO f n0 x1))]) q) := by
      show HP G A s.heap H locs [(a0, cAI G n0 f), (q, cAI G x1.toNat (cpO f n0 x1))]
      rw [hg]; exact hw
    refine lv_aload_n hx hb dJ7_copyOf_59c91_31 rfl (lv_at hl 0 rfl) ?_
    exact re_r (Or.inr ⟨_, rfl⟩) hx hb hlk hr cx hw (Nat.le_of_ble_eq_true rfl) (Nat.le_of_ble_eq_true rfl) dJ7_copyOf_59c91_32
section
variable {p : Program} {l : Launch} {e : Env} {R : Room} {s : State} {m : MethodId} {args : Array Value} {below : List Frame} {meth : Method} {c : Code} {H : Heap} {locs : List Loc} {cells slots : Nat} {Q : State → Prop} {cc : ByteArray} {pc : Nat} {ls : Array Slot} {rest : List Value} {G : GG} {A : Nat → Prop} {ws wc : va_W} {w1 : Nat → va_W} {st0 : List Value} {rm : Room}
theorem rc_R {a : Array Value} {wf : Nat → va_W} (hw : HP G A s.heap H locs ws) (isC isR : List Nat) (isP : List Nat) (hr : va_Run p l e R s m args below meth c H locs cells slots rm.cells rm.slots (F0 m pc ls st0) rest (QcR G (va_A wc H.size) w1 a) (va_A wc H.size)) (hC : isC.filterMap (fun i => ws[i]?) = wc) (hinC : isC.all (fun i => decide (i < ws.length)) = true) (hinR : isR.all (fun i => decide (i < ws.length)) = true) (hnR : va_nd isR = true) (hdis : isR.all (fun i => !isC.elem i) = true) (hnP : va_nd isP = true) (hinP : ∀ u, isP.all (fun i => decide (i < (isR.filterMap (fun i => ws[i]?) ++ w1 u).length)) = true) (hP : ∀ u, isP.filterMap (fun i => (isR.filterMap (fun i => ws[i]?) ++ w1 u)[i]?) = wf u)
    (kk : ∀ u H1 locs1, HP G A s.heap H1 locs1 (wf u) → W p l e R s m args below meth c H1 locs1 (cells + rm.cells) (slots + rm.slots) Q (F0 m (pc + 3) ls (.ref u :: rest))) : W p l e R s m args below meth c H locs cells slots Q (F0 m pc ls st0) := by
  have hF := hp_free hw isC hC hinC
  refine va_callr hr hw.2.2.1 (fun q _ h => hF q h) hF (fun _ u t H1 locs1 ht hvm hpost hB hz hk hS => ?_)
  exact kk u H1 locs1 (hp_join hw isC isR isP hC hinC hinR hnR hdis hnP (hinP u) (hP u) ht hB hk hS)
end
