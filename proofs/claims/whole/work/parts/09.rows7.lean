/-! the tables of SPLIT stand behind the other cells, where there are any -/
def wSp (G : GG) (on : Int) (a aw ab af ag : Nat) (runs : Int) (wh : Int → UInt64) (be : Int → Int) (fe to : Int → UInt64) : va_W := if on = 0 then [] else [(a, .inr (9, [.ref aw, .ref ab, .ref af, .ref ag, .int (kI runs)])), (aw, cAD G 61 wh), (ab, cAI G 3721 be), (af, cAD G 61 fe), (ag, cAD G 61 to)]
def spV (on : Int) (a : Nat) : Value := if on = 0 then .null else .ref a
theorem spV_n (on : Int) (a : Nat) (ty : String) : narrow (.object ty) (spV on a) = spV on a ∧ fits (.object ty) (spV on a) = true := by
  unfold spV; split <;> exact ⟨rfl, rfl⟩
theorem vP_iff {D : va_G} {cl : List vw_C} {ws : va_W} {H : Heap} : va_P D cl ws H ↔ ∀ q ∈ ws, va_at D cl q H := ⟨fun h q hq => by obtain ⟨i, hi⟩ := List.getElem?_of_mem hq; exact h i q hi, fun h k q hq => h q (List.mem_of_getElem? hq)⟩
theorem vD_iff {A : Nat → Prop} {ws : va_W} : va_D A ws ↔ (ws.map (·.1)).Nodup ∧ ∀ q ∈ ws, A q.1 := by
  constructor
  · intro h
    refine ⟨?_, fun q hq => by obtain ⟨i, hi⟩ := List.getElem?_of_mem hq; exact h.2 i q hi⟩
    refine List.pairwise_iff_getElem.mpr (fun i j hi hj hij he => ?_)
    rw [List.length_map] at hi hj
    have e1 : ws[i]? = some ws[i] := List.getElem?_eq_getElem hi
    have e2 : ws[j]? = some ws[j] := List.getElem?_eq_getElem hj
    rw [List.getElem_map, List.getElem_map] at he
    have := h.1 i j _ _ e1 e2 he
    omega
  · intro h
    refine ⟨fun i j p q hp hq he => ?_, fun k q hk => h.2 q (List.mem_of_getElem? hk)⟩
    have hn := List.pairwise_iff_getElem.mp h.1
    obtain ⟨li, ei⟩ := List.getElem?_eq_some_iff.mp hp
    obtain ⟨lj, ej⟩ := List.getElem?_eq_some_iff.mp hq
    rcases Nat.lt_trichotomy i j with hl | hl | hl
    · exact absurd (by rw [List.getElem_map, List.getElem_map, ei, ej]; exact he) (hn i j (by rw [List.length_map]; exact li) (by rw [List.length_map]; exact lj) hl)
    · exact hl
    · exact absurd (by rw [List.getElem_map, List.getElem_map, ei, ej]; exact he.symm) (hn j i (by rw [List.length_map]; exact lj) (by rw [List.length_map]; exact li) hl)
section
variable {p : Program} {l : Launch} {e : Env} {R : Room} {s : State} {m : MethodId} {args : Array Value} {below : List Frame} {meth : Method} {c : Code} {H : Heap} {locs : List Loc} {cells slots : Nat} {Q : State → Prop} {cc : ByteArray} {pc : Nat} {ls : Array Slot} {rest : List Value} {own : String} {nL : Nat} {G : GG} {S : SM} {A : Nat → Prop} {ws wc w1 w2 X X2 tl : va_W} {H0 : Heap} {st0 : List Value} {y : MethodName} {bytes : ByteArray} {maxL n index : Nat} {ret : Option FieldType} {rm : Room} {Qc : Array Value → State → Outcome → State → Prop} {free : Addr → Prop} {As : List Value} {b : Nat}
theorem hp_joinT {H1 : Heap} {locs1 : List Loc} {t : State} (hw : HP G A H0 H locs (X ++ tl)) (isC isR isP : List Nat) (hC : isC.filterMap (fun i => X[i]?) = wc) (hinC : isC.all (fun i => decide (i < X.length)) = true) (hinR : isR.all (fun i => decide (i < X.length)) = true) (hnR : va_nd isR = true) (hdis : isR.all (fun i => !isC.elem i) = true) (hnP : va_nd isP = true) (hinP : isP.all (fun i => decide (i < (isR.filterMap (fun i => X[i]?) ++ w1).length)) = true) (hP : isP.filterMap (fun i => (isR.filterMap (fun i => X[i]?) ++ w1)[i]?) = X2)
    (ht : t.heap = H1) (hB : WB G (va_A wc H.size) w1 t) (hk : ∀ q : Nat, q < H.size → ¬ va_A wc H.size q → H1[q]? = H[q]?) (hS : va_S A H0 H1 locs1) : HP G A H0 H1 locs1 (X2 ++ tl) := by
  obtain ⟨hPa, hDa, hSa, hAa⟩ := id hw
  have hPX : va_P G.1 vwCl X H := vP_iff.mpr (fun q hq => vP_iff.mp hPa q (List.mem_append_left _ hq))
  have hn := (vD_iff.mp hDa)
  rw [List.map_append, List.nodup_append] at hn
  have hDX : va_D A X := vD_iff.mpr ⟨hn.1.1, fun q hq => hn.2 q (List.mem_append_left _ hq)⟩
  have hwX : HP G A H0 H locs X := ⟨hPX, hDX, hSa, hAa⟩
  have hX2 := hp_join hwX isC isR isP hC hinC hinR hnR hdis hnP hinP hP ht hB hk hS
  have hmemC : ∀ q ∈ wc, q ∈ X := fun q hq => by
    rw [← hC] at hq
    obtain ⟨i, -, hi⟩ := List.mem_filterMap.mp hq
    exact List.mem_of_getElem? hi
  have htl : ∀ q ∈ tl, ¬ va_A wc H.size q.1 ∧ q.1 < H.size := fun q hq => by
    have hl := (vP_iff.mp hPa q (List.mem_append_right _ hq))
    have hlt : q.1 < H.size := va_at.lt hl
    refine ⟨fun h => ?_, hlt⟩
    rcases h with ⟨k, e, h⟩ | h
    · exact hn.1.2.2 q.1 (List.mem_map.mpr ⟨(q.1, e), hmemC _ (List.mem_of_getElem? h), rfl⟩) q.1 (List.mem_map.mpr ⟨q, hq, rfl⟩) rfl
    · omega
  refine ⟨vP_iff.mpr (fun q hq => ?_), vD_iff.mpr ⟨?_, fun q hq => ?_⟩, hS, hAa⟩
  · rcases List.mem_append.mp hq with h | h
    · exact vP_iff.mp hX2.1 q h
    · exact (vP_iff.mp hPa q (List.mem_append_right _ h)).kept (hk q.1 (htl q h).2 (htl q h).1)
  · rw [List.map_append, List.nodup_append]
    refine ⟨(vD_iff.mp hX2.2.1).1, hn.1.2.1, fun a ha b hb hab => ?_⟩
    subst hab
    obtain ⟨q, hq, hqa⟩ := List.mem_map.mp ha
    obtain ⟨q2, hq2, hq2a⟩ := List.mem_map.mp hb
    have ht2 := htl q2 hq2
    rw [← hP] at hq
    obtain ⟨i, -, hi⟩ := List.mem_filterMap.mp hq
    rcases List.mem_append.mp (List.mem_of_getElem? hi) with h | h
    · obtain ⟨j, -, hj⟩ := List.mem_filterMap.mp h
      exact hn.1.2.2 a (List.mem_map.mpr ⟨q, List.mem_of_getElem? hj, hqa⟩) a (List.mem_map.mpr ⟨q2, hq2, hq2a⟩) rfl
    · have := (vD_iff.mp hB.2.2).2 q h
      rw [hqa] at this
      rw [hq2a] at ht2
      exact ht2.1 this
  · rcases List.mem_append.mp hq with h | h
    · exact (vD_iff.mp hX2.2.1).2 q h
    · exact hn.2 q (List.mem_append_right _ h)
theorem hp_freeT (hw : HP G A H0 H locs (X ++ tl)) (isC : List Nat) (hC : isC.filterMap (fun i => X[i]?) = wc) : ∀ q, va_A wc H.size q → A q := fun q h => by
  rcases h with ⟨k, e, h⟩ | h
  · have hm := List.mem_of_getElem? h
    rw [← hC] at hm
    obtain ⟨i, -, hi⟩ := List.mem_filterMap.mp hm
    exact (vD_iff.mp hw.2.1).2 _ (List.mem_append_left _ (List.mem_of_getElem? hi))
  · exact hw.2.2.2 q (Nat.le_trans hw.2.2.1.1 h)
theorem hp_head (hw : HP G A H0 H locs (X ++ tl)) : HP G A H0 H locs X := by
  have hn := (vD_iff.mp hw.2.1)
  rw [List.map_append, List.nodup_append] at hn
  exact ⟨vP_iff.mpr (fun q hq => vP_iff.mp hw.1 q (List.mem_append_left _ hq)), vD_iff.mpr ⟨hn.1.1, fun q hq => hn.2 q (List.mem_append_left _ hq)⟩, hw.2.2⟩
theorem rc_VT {a : Array Value} (hw : HP G A H0 H locs (X ++ tl)) (isC isR isP : List Nat) (hr : va_Run p l e R s m args below meth c H locs cells slots rm.cells rm.slots (F0 m pc ls st0) rest (QcV G (va_A wc H.size) w1 a) (va_A wc H.size)) (hC : isC.filterMap (fun i => X[i]?) = wc) (hinC : isC.all (fun i => decide (i < X.length)) = true) (hinR : isR.all (fun i => decide (i < X.length)) = true) (hnR : va_nd isR = true) (hdis : isR.all (fun i => !isC.elem i) = true) (hnP : va_nd isP = true) (hinP : isP.all (fun i => decide (i < (isR.filterMap (fun i => X[i]?) ++ w1).length)) = true) (hP : isP.filterMap (fun i => (isR.filterMap (fun i => X[i]?) ++ w1)[i]?) = X2)
    (kk : ∀ H1 locs1, HP G A H0 H1 locs1 (X2 ++ tl) → W p l e R s m args below meth c H1 locs1 (cells + rm.cells) (slots + rm.slots) Q (F0 m (pc + 3) ls rest)) : W p l e R s m args below meth c H locs cells slots Q (F0 m pc ls st0) := by
  have hF := hp_freeT hw isC hC
  refine va_callv hr hw.2.2.1 (fun q _ h => hF q h) hF (fun u t H1 locs1 ht hvm hpost hB hz hk hS => ?_)
  exact kk H1 locs1 (hp_joinT hw isC isR isP hC hinC hinR hnR hdis hnP hinP hP ht hB hk hS)
theorem rc_IT {v : Int} {a : Array Value} (hw : HP G A H0 H locs (X ++ tl)) (isC isR isP : List Nat) (hr : va_Run p l e R s m args below meth c H locs cells slots rm.cells rm.slots (F0 m pc ls st0) rest (QcI G (va_A wc H.size) v w1 a) (va_A wc H.size)) (hC : isC.filterMap (fun i => X[i]?) = wc) (hinC : isC.all (fun i => decide (i < X.length)) = true) (hinR : isR.all (fun i => decide (i < X.length)) = true) (hnR : va_nd isR = true) (hdis : isR.all (fun i => !isC.elem i) = true) (hnP : va_nd isP = true) (hinP : isP.all (fun i => decide (i < (isR.filterMap (fun i => X[i]?) ++ w1).length)) = true) (hP : isP.filterMap (fun i => (isR.filterMap (fun i => X[i]?) ++ w1)[i]?) = X2)
    (kk : ∀ H1 locs1, HP G A H0 H1 locs1 (X2 ++ tl) → W p l e R s m args below meth c H1 locs1 (cells + rm.cells) (slots + rm.slots) Q (F0 m (pc + 3) ls (.int (kI v) :: rest))) : W p l e R s m args below meth c H locs cells slots Q (F0 m pc ls st0) := by
  have hF := hp_freeT hw isC hC
  refine va_calli hr hw.2.2.1 (fun q _ h => hF q h) hF (fun r u t H1 locs1 ht hvm hpost hB hz hk hS => ?_)
  have hpost : r = _ := hpost
  rw [hpost]
  exact kk H1 locs1 (hp_joinT hw isC isR isP hC hinC hinR hnR hdis hnP hinP hP ht hB hk hS)
/-- a call that takes the whole world -/
theorem rr_VA (cx : CX p s m args c cc own nL G S A) (hw : HP G A s.heap H locs ws) (M : Met l y (.code y bytes maxL ret :: lw_g) rm (PreC G S H.size (.ref b :: As) ws) Qc rm.cells rm.slots free) (mv : MV own index y bytes maxL ret n) (q0 : Nat) {ci N : Nat} {T : u_T} {fs : List Value} (he : ws[q0]? = some (b, .inr (ci, fs))) (hc : vwCl[ci]? = some (y.cls, T, N))
    (hR : rm.frames + 1 ≤ R.frames ∧ 8 + (maxL + 11) + rm.locals ≤ R.locals) (hn : As.length = n) (hsize : ls.size = nL) (hst : st0 = As.reverse ++ .ref b :: rest) (hW : (rest.map fun v => v.category).sum ≤ 8) (d : decode cc pc = .ok (.invokevirtual index, 3)) (hf : cells + rm.cells ≤ R.cells ∧ slots + rm.slots ≤ R.slots) :
    va_Run p l e R s m args below meth c H locs cells slots rm.cells rm.slots (F0 m pc ls st0) rest (Qc (Value.ref b :: As).toArray) free := by
  have ok : ∀ w ∈ lw_g, w.before args s = true := cx.1.2.2.2.2
  have hF : ∀ q, va_A ws H.size q → A q := fun q h => by
    rcases h with ⟨k, e, h⟩ | h
    · exact hw.2.1.2 k _ h
    · exact hw.2.2.2 q (Nat.le_trans hw.2.2.1.1 h)
  refine va_runV (As := As) (b := b) (C := y.cls) cx.1 M ⟨callB_of n ok (wd_code mv.2.2.2.2.1) rfl rfl rfl (ok _ mv.2.2.2.1) (ok _ mv.1) mv.2.2.2.2.2 hR, ok _ mv.2.1, ok _ mv.2.2.1⟩ ⟨pre_blind, va_recv cx.2.1 hw.1 (ci := ci) (q0 := q0) hc he, fun U hU hW => ⟨rfl, by rw [hU], by rw [hU]; exact hw.1, ⟨va_K.moved hW.alike cx.2.1, ef_next cx hw hF hU hW⟩, hw.2.1.weaken (fun _ _ _ _ => trivial)⟩⟩ rfl hn hsize hst (lv_room hW) d hf
theorem hp_all {H1 : Heap} {locs1 : List Loc} {t : State} (hw : HP G A H0 H locs ws) (ht : t.heap = H1) (hB : WB G (va_A ws H.size) w1 t) (hS : va_S A H0 H1 locs1) : HP G A H0 H1 locs1 w1 := by
  obtain ⟨hP1, -, hD1⟩ := hB
  rw [ht] at hP1
  exact ⟨hP1, hD1.weaken (fun k q hk h => by
    rcases h with ⟨k, e, h⟩ | h
    · exact hw.2.1.2 k (q.1, e) h
    · exact hw.2.2.2 _ (Nat.le_trans hw.2.2.1.1 h)), hS, hw.2.2.2⟩
theorem hp_allF (hw : HP G A H0 H locs ws) : ∀ q, va_A ws H.size q → A q := fun q h => by
  rcases h with ⟨k, e, h⟩ | h
  · exact hw.2.1.2 k _ h
  · exact hw.2.2.2 q (Nat.le_trans hw.2.2.1.1 h)
theorem rc_VA {a : Array Value} (hw : HP G A H0 H locs ws) (hr : va_Run p l e R s m args below meth c H locs cells slots rm.cells rm.slots (F0 m pc ls st0) rest (QcV G (va_A ws H.size) w1 a) (va_A ws H.size))
    (kk : ∀ H1 locs1, HP G A H0 H1 locs1 w1 → W p l e R s m args below meth c H1 locs1 (cells + rm.cells) (slots + rm.slots) Q (F0 m (pc + 3) ls rest)) : W p l e R s m args below meth c H locs cells slots Q (F0 m pc ls st0) := by
  have hF := hp_allF hw
  refine va_callv hr hw.2.2.1 (fun q _ h => hF q h) hF (fun u t H1 locs1 ht hvm hpost hB hz hk hS => ?_)
  exact kk H1 locs1 (hp_all hw ht hB hS)
theorem rc_IA {v : Int} {a : Array Value} (hw : HP G A H0 H locs ws) (hr : va_Run p l e R s m args below meth c H locs cells slots rm.cells rm.slots (F0 m pc ls st0) rest (QcI G (va_A ws H.size) v w1 a) (va_A ws H.size))
    (kk : ∀ H1 locs1, HP G A H0 H1 locs1 w1 → W p l e R s m args below meth c H1 locs1 (cells + rm.cells) (slots + rm.slots) Q (F0 m (pc + 3) ls (.int (kI v) :: rest))) : W p l e R s m args below meth c H locs cells slots Q (F0 m pc ls st0) := by
  have hF := hp_allF hw
  refine va_calli hr hw.2.2.1 (fun q _ h => hF q h) hF (fun r u t H1 locs1 ht hvm hpost hB hz hk hS => ?_)
  have hpost : r = _ := hpost
  rw [hpost]
  exact kk H1 locs1 (hp_all hw ht hB hS)
theorem rc_LA {v : Int} {a : Array Value} (hw : HP G A H0 H locs ws) (hr : va_Run p l e R s m args below meth c H locs cells slots rm.cells rm.slots (F0 m pc ls st0) rest (QcL G (va_A ws H.size) v w1 a) (va_A ws H.size))
    (kk : ∀ H1 locs1, HP G A H0 H1 locs1 w1 → W p l e R s m args below meth c H1 locs1 (cells + rm.cells) (slots + rm.slots) Q (F0 m (pc + 3) ls (.long (kL v) :: rest))) : W p l e R s m args below meth c H locs cells slots Q (F0 m pc ls st0) := by
  have hF := hp_allF hw
  refine va_calll hr hw.2.2.1 (fun q _ h => hF q h) hF (fun r u t H1 locs1 ht hvm hpost hB hz hk hS => ?_)
  have hpost : r = _ := hpost
  rw [hpost]
  exact kk H1 locs1 (hp_all hw ht hB hS)
end
theorem HP.comm {G : GG} {A : Nat → Prop} {H0 H : Heap} {locs : List Loc} {X Y : va_W} (h : HP G A H0 H locs (X ++ Y)) : HP G A H0 H locs (Y ++ X) := by
  have hn := vD_iff.mp h.2.1
  refine ⟨vP_iff.mpr (fun q hq => vP_iff.mp h.1 q (List.mem_append.mpr (List.mem_append.mp hq).symm)), vD_iff.mpr ⟨?_, fun q hq => hn.2 q (List.mem_append.mpr (List.mem_append.mp hq).symm)⟩, h.2.2⟩
  rw [List.map_append] at hn ⊢
  exact (List.Perm.nodup_iff List.perm_append_comm).mp hn.1
theorem wSp_on {G : GG} {on : Int} (h : ¬ on = 0) (a aw ab af ag : Nat) (runs : Int) (wh : Int → UInt64) (be : Int → Int) (fe to : Int → UInt64) : wSp G on a aw ab af ag runs wh be fe to = [(a, .inr (9, [.ref aw, .ref ab, .ref af, .ref ag, .int (kI runs)])), (aw, cAD G 61 wh), (ab, cAI G 3721 be), (af, cAD G 61 fe), (ag, cAD G 61 to)] := if_neg h
theorem spV_on {on : Int} (h : ¬ on = 0) (a : Nat) : spV on a = .ref a := if_neg h
theorem spV_off {on : Int} (h : on = 0) (a : Nat) : spV on a = .null := if_pos h
theorem HP.mid {G : GG} {A : Nat → Prop} {H0 H : Heap} {locs : List Loc} {X Y tl : va_W} (h : HP G A H0 H locs ((X ++ tl) ++ Y)) : HP G A H0 H locs ((X ++ Y) ++ tl) := by
  have hn := vD_iff.mp h.2.1
  have hm : ∀ q, q ∈ (X ++ Y) ++ tl → q ∈ (X ++ tl) ++ Y := fun q hq => by
    simp only [List.mem_append] at hq ⊢
    rcases hq with (h | h) | h
    · exact Or.inl (Or.inl h)
    · exact Or.inr h
    · exact Or.inl (Or.inr h)
  refine ⟨vP_iff.mpr (fun q hq => vP_iff.mp h.1 q (hm q hq)), vD_iff.mpr ⟨?_, fun q hq => hn.2 q (hm q hq)⟩, h.2.2⟩
  have hp : List.Perm ((X ++ tl) ++ Y) ((X ++ Y) ++ tl) := by
    rw [List.append_assoc, List.append_assoc]
    exact List.Perm.append_left X List.perm_append_comm
  exact (List.Perm.nodup_iff (hp.map _)).mp hn.1
def QcIx (G : GG) (A : Nat → Prop) (v : Int) (w1 : (Nat → Nat) → va_W) := va_Qi (S := Nat → Nat) (fun r _ => r = kI v) (fun u t => WB G A (w1 u) t) A
def QcLx (G : GG) (A : Nat → Prop) (v : Int) (w1 : (Nat → Nat) → va_W) := va_Ql (S := Nat → Nat) (fun r _ => r = kL v) (fun u t => WB G A (w1 u) t) A
def CtIx (l : Launch) (y : MethodName) (cc : ByteArray) (maxL : Nat) (ret : FieldType) (rm : Room) (G : GG) (S : SM) (sz : Nat) (av : List Value) (ws : va_W) (v : Int) (w1 : (Nat → Nat) → va_W) : Prop := Met l y (.code y cc maxL (some ret) :: lw_g) rm (PreC G S sz av ws) (QcIx G (va_A ws sz) v w1) rm.cells rm.slots (va_A ws sz)
def CtLx (l : Launch) (y : MethodName) (cc : ByteArray) (maxL : Nat) (rm : Room) (G : GG) (S : SM) (sz : Nat) (av : List Value) (ws : va_W) (v : Int) (w1 : (Nat → Nat) → va_W) : Prop := Met l y (.code y cc maxL (some .long) :: lw_g) rm (PreC G S sz av ws) (QcLx G (va_A ws sz) v w1) rm.cells rm.slots (va_A ws sz)
theorem met_Ix {l : Launch} {y : MethodName} {cc : ByteArray} {maxL : Nat} {ret : FieldType} {rm : Room} {G : GG} {S : SM} {sz : Nat} {av : List Value} {ws : va_W} {w1 : (Nat → Nat) → va_W} {v : Int} (hy : plainName y.cls = true) (hn : (lg_sl av).length ≤ maxL)
    (body : ∀ (p : Program) (e : Env) (s : State) (m : MethodId) (args : Array Value) (below : List Frame) (meth : Method) (c : Code) (A : Nat → Prop) (H : Heap) (locs : List Loc) (ls : Array Slot), CX p s m args c cc y.cls maxL G S A → HP G A s.heap H locs ws → meth.sig.returnType = some ret → meth.locks = false → meth.name = y.name → lv_has ls maxL (lv_args 0 av) → W p l e rm s m args below meth c H locs 0 0 (MQ below (QcIx G A v w1) args s rm.cells rm.slots A) (F0 m 0 ls [])) : CtIx l y cc maxL ret rm G S sz av ws v w1 := met_of (Qc := fun A => QcIx G A v w1) hy hn body
theorem met_Lx {l : Launch} {y : MethodName} {cc : ByteArray} {maxL : Nat} {rm : Room} {G : GG} {S : SM} {sz : Nat} {av : List Value} {ws : va_W} {w1 : (Nat → Nat) → va_W} {v : Int} (hy : plainName y.cls = true) (hn : (lg_sl av).length ≤ maxL)
    (body : ∀ (p : Program) (e : Env) (s : State) (m : MethodId) (args : Array Value) (below : List Frame) (meth : Method) (c : Code) (A : Nat → Prop) (H : Heap) (locs : List Loc) (ls : Array Slot), CX p s m args c cc y.cls maxL G S A → HP G A s.heap H locs ws → meth.sig.returnType = some .long → meth.locks = false → meth.name = y.name → lv_has ls maxL (lv_args 0 av) → W p l e rm s m args below meth c H locs 0 0 (MQ below (QcLx G A v w1) args s rm.cells rm.slots A) (F0 m 0 ls [])) : CtLx l y cc maxL rm G S sz av ws v w1 := met_of (Qc := fun A => QcLx G A v w1) hy hn body
section
variable {p : Program} {l : Launch} {e : Env} {R : Room} {s : State} {m : MethodId} {args : Array Value} {below : List Frame} {meth : Method} {c : Code} {H : Heap} {locs : List Loc} {cells slots : Nat} {Q : State → Prop} {cc : ByteArray} {pc : Nat} {ls : Array Slot} {rest : List Value} {own : String} {nL : Nat} {G : GG} {S : SM} {A : Nat → Prop} {ws wc X tl : va_W} {w1 : (Nat → Nat) → va_W} {st0 : List Value} {rm : Room}
theorem re_ix {v : Int} (u : Nat → Nat) (hx : p.tables.exec = Jvm.exec) (hb : c.code = cc) (hlk : meth.locks = false) (hr : meth.sig.returnType = some .int) (cx : CX p s m args c cc own nL G S A) (hw : HP G A s.heap H locs (w1 u)) (hc : cells ≤ R.cells) (hs : slots ≤ R.slots) (d : decode cc pc = .ok (.ireturn, 1)) : W p l e R s m args below meth c H locs cells slots (MQ below (QcIx G A v w1) args s R.cells R.slots A) (F0 m pc ls [.int (kI v)]) :=
  W.widen hc hs (W.iret hx hb hr (fun t ht hW => ⟨⟨_, u, rfl, rfl, by rw [ht]; exact hw.1, va_K.moved hW.alike cx.2.1, hw.2.1⟩, hw.2.2.1.F ht⟩) hw.2.2.1.2.2 d hlk)
theorem re_lx {v : Int} (u : Nat → Nat) (hx : p.tables.exec = Jvm.exec) (hb : c.code = cc) (hlk : meth.locks = false) (hr : meth.sig.returnType = some .long) (cx : CX p s m args c cc own nL G S A) (hw : HP G A s.heap H locs (w1 u)) (hc : cells ≤ R.cells) (hs : slots ≤ R.slots) (d : decode cc pc = .ok (.lreturn, 1)) : W p l e R s m args below meth c H locs cells slots (MQ below (QcLx G A v w1) args s R.cells R.slots A) (F0 m pc ls [.long (kL v)]) :=
  W.widen hc hs (W.lret hx hb hr (fun t ht hW => ⟨⟨_, u, rfl, rfl, by rw [ht]; exact hw.1, va_K.moved hW.alike cx.2.1, hw.2.1⟩, hw.2.2.1.F ht⟩) hw.2.2.1.2.2 d hlk)
theorem rc_VxT {a : Array Value} {wf : (Nat → Nat) → va_W} (hw : HP G A s.heap H locs (X ++ tl)) (isC isR : List Nat) (isP : List Nat) (hr : va_Run p l e R s m args below meth c H locs cells slots rm.cells rm.slots (F0 m pc ls st0) rest (QcVx G (va_A wc H.size) w1 a) (va_A wc H.size)) (hC : isC.filterMap (fun i => X[i]?) = wc) (hinC : isC.all (fun i => decide (i < X.length)) = true) (hinR : isR.all (fun i => decide (i < X.length)) = true) (hnR : va_nd isR = true) (hdis : isR.all (fun i => !isC.elem i) = true) (hnP : va_nd isP = true) (hinP : ∀ u, isP.all (fun i => decide (i < (isR.filterMap (fun i => X[i]?) ++ w1 u).length)) = true) (hP : ∀ u, isP.filterMap (fun i => (isR.filterMap (fun i => X[i]?) ++ w1 u)[i]?) = wf u)
    (kk : ∀ u H1 locs1, HP G A s.heap H1 locs1 (wf u ++ tl) → W p l e R s m args below meth c H1 locs1 (cells + rm.cells) (slots + rm.slots) Q (F0 m (pc + 3) ls rest)) : W p l e R s m args below meth c H locs cells slots Q (F0 m pc ls st0) := by
  have hF := hp_freeT hw isC hC
  refine va_callv hr hw.2.2.1 (fun q _ h => hF q h) hF (fun u t H1 locs1 ht hvm hpost hB hz hk hS => ?_)
  exact kk u H1 locs1 (hp_joinT hw isC isR isP hC hinC hinR hnR hdis hnP (hinP u) (hP u) ht hB hk hS)
end
theorem wSp_off {G : GG} {on : Int} (h : on = 0) (a aw ab af ag : Nat) (runs : Int) (wh : Int → UInt64) (be : Int → Int) (fe to : Int → UInt64) : wSp G on a aw ab af ag runs wh be fe to = [] := if_pos h
def QcRx (G : GG) (A : Nat → Prop) (w1 : (Nat → Nat) → Nat → va_W) := va_Qr (S := Nat → Nat) (fun _ => True) (fun u a t => WB G A (w1 u a) t) A
def CtRx (l : Launch) (y : MethodName) (cc : ByteArray) (maxL : Nat) (ret : FieldType) (rm : Room) (G : GG) (S : SM) (sz : Nat) (av : List Value) (ws : va_W) (w1 : (Nat → Nat) → Nat → va_W) : Prop := Met l y (.code y cc maxL (some ret) :: lw_g) rm (PreC G S sz av ws) (QcRx G (va_A ws sz) w1) rm.cells rm.slots (va_A ws sz)
theorem met_Rx {l : Launch} {y : MethodName} {cc : ByteArray} {maxL : Nat} {ret : FieldType} {rm : Room} {G : GG} {S : SM} {sz : Nat} {av : List Value} {ws : va_W} {w1 : (Nat → Nat) → Nat → va_W} (hy : plainName y.cls = true) (hn : (lg_sl av).length ≤ maxL)
    (body : ∀ (p : Program) (e : Env) (s : State) (m : MethodId) (args : Array Value) (below : List Frame) (meth : Method) (c : Code) (A : Nat → Prop) (H : Heap) (locs : List Loc) (ls : Array Slot), CX p s m args c cc y.cls maxL G S A → HP G A s.heap H locs ws → meth.sig.returnType = some ret → meth.locks = false → meth.name = y.name → lv_has ls maxL (lv_args 0 av) → W p l e rm s m args below meth c H locs 0 0 (MQ below (QcRx G A w1) args s rm.cells rm.slots A) (F0 m 0 ls [])) : CtRx l y cc maxL ret rm G S sz av ws w1 := met_of (Qc := fun A => QcRx G A w1) hy hn body
section
variable {p : Program} {l : Launch} {e : Env} {R : Room} {s : State} {m : MethodId} {args : Array Value} {below : List Frame} {meth : Method} {c : Code} {H : Heap} {locs : List Loc} {cells slots : Nat} {Q : State → Prop} {cc : ByteArray} {pc : Nat} {ls : Array Slot} {rest : List Value} {own : String} {nL : Nat} {G : GG} {S : SM} {A : Nat → Prop} {ws : va_W} {w1 : (Nat → Nat) → Nat → va_W} {st0 : List Value} {rm : Room} {H0 : Heap}
theorem re_rx {rt : FieldType} {a : Nat} (u : Nat → Nat) (hrt : (∃ n, rt = .object n) ∨ ∃ t, rt = .array t) (hx : p.tables.exec = Jvm.exec) (hb : c.code = cc) (hlk : meth.locks = false) (hr : meth.sig.returnType = some rt) (cx : CX p s m args c cc own nL G S A) (hw : HP G A s.heap H locs (w1 u a)) (hc : cells ≤ R.cells) (hs : slots ≤ R.slots) (d : decode cc pc = .ok (.areturn, 1)) : W p l e R s m args below meth c H locs cells slots (MQ below (QcRx G A w1) args s R.cells R.slots A) (F0 m pc ls [.ref a]) :=
  W.widen hc hs (W.aret hx hb hr hrt (Or.inr ⟨a, rfl⟩) (fun t ht hW => ⟨⟨u, a, rfl, trivial, by rw [ht]; exact hw.1, va_K.moved hW.alike cx.2.1, hw.2.1⟩, hw.2.2.1.F ht⟩) hw.2.2.1.2.2 d hlk)
theorem rc_RxA {a : Array Value} (hw : HP G A H0 H locs ws) (hr : va_Run p l e R s m args below meth c H locs cells slots rm.cells rm.slots (F0 m pc ls st0) rest (QcRx G (va_A ws H.size) w1 a) (va_A ws H.size))
    (kk : ∀ u b H1 locs1, HP G A H0 H1 locs1 (w1 u b) → W p l e R s m args below meth c H1 locs1 (cells + rm.cells) (slots + rm.slots) Q (F0 m (pc + 3) ls (.ref b :: rest))) : W p l e R s m args below meth c H locs cells slots Q (F0 m pc ls st0) := by
  have hF := hp_allF hw
  refine va_callr hr hw.2.2.1 (fun q _ h => hF q h) hF (fun u b t H1 locs1 ht hvm hpost hB hz hk hS => ?_)
  exact kk u b H1 locs1 (hp_all hw ht hB hS)
end
