theorem w_stk {p : Program} {l : Launch} {e : Env} {R : Room} {s : State} {m : MethodId} {args : Array Value} {below : List Frame} {meth : Method} {c : Code} {H : Heap} {locs : List Loc} {cells slots : Nat} {Q : State → Prop} {pc : Nat} {ls : Array Slot} {x y : Value} {st : List Value} (h : x = y) (k : W p l e R s m args below meth c H locs cells slots Q (F0 m pc ls (y :: st))) : W p l e R s m args below meth c H locs cells slots Q (F0 m pc ls (x :: st)) := by
  rw [h]; exact k
section
variable {l : Launch} {y : MethodName} {cc : ByteArray} {maxL : Nat} {ret : FieldType} {rm : Room} {G : GG} {S : SM} {sz : Nat} {av : List Value} {X X2 Y Y1 tl tl1 : va_W} {v : Int}
theorem pm_eq {X Z : va_W} (h : Z = X) : List.Perm X Z := by rw [h]
theorem ct_PV (n : Nat) (h : CtV l y cc maxL rm G S sz av (Y ++ tl) (Y1 ++ tl1)) (hX : Y ++ X.drop n = X) (hX2 : Y1 ++ X.drop n = X2) : CtV l y cc maxL rm G S sz av (X ++ tl) (X2 ++ tl1) := ct_V h (pm_tl (pm_eq hX)) (pm_tl (pm_eq hX2))
end
section
variable {p : Program} {l : Launch} {e : Env} {R : Room} {s : State} {m : MethodId} {args : Array Value} {below : List Frame} {meth : Method} {c : Code} {H : Heap} {locs : List Loc} {cells slots : Nat} {Q : State → Prop} {cc : ByteArray} {pc : Nat} {ls : Array Slot} {rest : List Value} {G : GG} {A : Nat → Prop} {wc w1 X X2 tl : va_W} {H0 : Heap} {st0 : List Value} {rm : Room}
theorem rc_LT {v : Int} {a : Array Value} (hw : HP G A H0 H locs (X ++ tl)) (isC isR isP : List Nat) (hr : va_Run p l e R s m args below meth c H locs cells slots rm.cells rm.slots (F0 m pc ls st0) rest (QcL G (va_A wc H.size) v w1 a) (va_A wc H.size)) (hC : isC.filterMap (fun i => X[i]?) = wc) (hinC : isC.all (fun i => decide (i < X.length)) = true) (hinR : isR.all (fun i => decide (i < X.length)) = true) (hnR : va_nd isR = true) (hdis : isR.all (fun i => !isC.elem i) = true) (hnP : va_nd isP = true) (hinP : isP.all (fun i => decide (i < (isR.filterMap (fun i => X[i]?) ++ w1).length)) = true) (hP : isP.filterMap (fun i => (isR.filterMap (fun i => X[i]?) ++ w1)[i]?) = X2)
    (kk : ∀ H1 locs1, HP G A H0 H1 locs1 (X2 ++ tl) → W p l e R s m args below meth c H1 locs1 (cells + rm.cells) (slots + rm.slots) Q (F0 m (pc + 3) ls (.long (kL v) :: rest))) : W p l e R s m args below meth c H locs cells slots Q (F0 m pc ls st0) := by
  have hF := hp_freeT hw isC hC
  refine va_calll hr hw.2.2.1 (fun q _ h => hF q h) hF (fun r u t H1 locs1 ht hvm hpost hB hz hk hS => ?_)
  have hpost : r = _ := hpost
  rw [hpost]
  exact kk H1 locs1 (hp_joinT hw isC isR isP hC hinC hinR hnR hdis hnP hinP hP ht hB hk hS)
end
