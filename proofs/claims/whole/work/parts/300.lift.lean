/-! a contract over some cells serves where more cells stand -/
theorem met_imp {l : Launch} {y : MethodName} {ws : List Cond} {rm : Room} {Pc Pc' : Array Value → State → Prop} {Qc Qc' : Array Value → State → Outcome → State → Prop} {mc ms : Nat} {free free' : Addr → Prop} (h : Met l y ws rm Pc Qc mc ms free) (hp : ∀ a s, Pc' a s → Pc a s) (hq : ∀ a s o t, Pc' a s → Qc a s o t → Qc' a s o t) (hf : ∀ q, free q → free' q) : Met l y ws rm Pc' Qc' mc ms free' := by
  intro p e h1 h2 h3 s m args below h4 h5 h6 h7
  obtain ⟨n, o, a, b, c, d, L, f1, f2⟩ := h p e h1 h2 h3 s m args below h4 h5 (hp _ _ h6) trivial
  exact ⟨n, o, a, b, c, hq _ _ _ _ h6 d, L, f1, fun q hq => hf _ (f2 q hq)⟩
theorem vA_pm {W Y R : va_W} {sz : Nat} (hp : List.Perm W (Y ++ R)) : ∀ q, va_A Y sz q → va_A W sz q := fun q h => by
  rcases h with ⟨k, e, h⟩ | h
  · have hm := hp.mem_iff.mpr (List.mem_append_left R (List.mem_of_getElem? h))
    obtain ⟨i, hi⟩ := List.getElem?_of_mem hm
    exact Or.inl ⟨i, e, hi⟩
  · exact Or.inr h
theorem al_refl (u : State) : u.vm.Alike u.vm := (State.WarmedH.refl u).alike
theorem ef_narrow {G : GG} {S : SM} {A B : Nat → Prop} {U : State} {H : Heap} (h : EF G S A U H) (hAB : ∀ q, B q → A q) : EF G S B U H := ⟨h.1, h.2.1.next (fun _ _ _ => rfl) hAB (al_refl U), h.2.2.1.next (fun _ _ _ => rfl) hAB (al_refl U), h.2.2.2⟩
theorem nd_pm {W Z : va_W} (hp : List.Perm W Z) (h : (W.map (·.1)).Nodup) : (Z.map (·.1)).Nodup := (List.Perm.nodup_iff (hp.map _)).mp h
theorem pre_pm {G : GG} {S : SM} {sz : Nat} {av : List Value} {W Y R : va_W} (hp : List.Perm W (Y ++ R)) {a : Array Value} {s : State} (h : PreC G S sz av W a s) : PreC G S sz av Y a s := by
  obtain ⟨h1, h2, h3, ⟨h4, h5⟩, h6⟩ := h
  refine ⟨h1, h2, vP_iff.mpr (fun q hq => vP_iff.mp h3 q (hp.mem_iff.mpr (List.mem_append_left _ hq))), ⟨h4, ef_narrow h5 (vA_pm hp)⟩, vD_iff.mpr ⟨?_, fun _ _ => trivial⟩⟩
  have hn := nd_pm hp (vD_iff.mp h6).1
  rw [List.map_append, List.nodup_append] at hn
  exact hn.1
theorem wb_pm {G : GG} {S : SM} {sz : Nat} {av : List Value} {W Y R W1 Y1 : va_W} (hp : List.Perm W (Y ++ R)) (hp1 : List.Perm W1 (Y1 ++ R)) {a : Array Value} {s t : State} (h : PreC G S sz av W a s) (hB : WB G (va_A Y sz) Y1 t) (hF : va_F (va_A Y sz) s t) : WB G (va_A W sz) W1 t := by
  obtain ⟨h1, h2, h3, ⟨h4, h5⟩, h6⟩ := h
  have hn := nd_pm hp (vD_iff.mp h6).1
  rw [List.map_append, List.nodup_append] at hn
  have hR : ∀ q ∈ R, ¬ va_A Y sz q.1 ∧ q.1 < s.heap.size := fun q hq => by
    have hlt : q.1 < s.heap.size := va_at.lt (vP_iff.mp h3 q (hp.mem_iff.mpr (List.mem_append_right _ hq)))
    refine ⟨fun h => ?_, hlt⟩
    rcases h with ⟨k, e, h⟩ | h
    · exact hn.2.2 q.1 (List.mem_map.mpr ⟨(q.1, e), List.mem_of_getElem? h, rfl⟩) q.1 (List.mem_map.mpr ⟨q, hq, rfl⟩) rfl
    · omega
  have hD1 := vD_iff.mp hB.2.2
  refine ⟨vP_iff.mpr (fun q hq => ?_), hB.2.1, vD_iff.mpr ⟨?_, fun q hq => ?_⟩⟩
  · rcases List.mem_append.mp (hp1.mem_iff.mp hq) with h | h
    · exact vP_iff.mp hB.1 q h
    · exact (vP_iff.mp h3 q (hp.mem_iff.mpr (List.mem_append_right _ h))).kept (hF.2 q.1 (hR q h).2 (hR q h).1)
  · refine nd_pm hp1.symm ?_
    rw [List.map_append, List.nodup_append]
    refine ⟨hD1.1, hn.2.1, fun x hx z hz hxz => ?_⟩
    subst hxz
    obtain ⟨q, hq, hqa⟩ := List.mem_map.mp hx
    obtain ⟨q2, hq2, hq2a⟩ := List.mem_map.mp hz
    have i1 := hD1.2 q hq
    have i2 := (hR q2 hq2).1
    rw [hqa] at i1
    rw [hq2a] at i2
    exact i2 i1
  · rcases List.mem_append.mp (hp1.mem_iff.mp hq) with h | h
    · exact vA_pm hp _ (hD1.2 q h)
    · have hm := hp.mem_iff.mpr (List.mem_append_right Y h)
      obtain ⟨i, hi⟩ := List.getElem?_of_mem hm
      exact Or.inl ⟨i, q.2, hi⟩
theorem vF_pm {W Y R : va_W} {sz : Nat} (hp : List.Perm W (Y ++ R)) {s t : State} (h : va_F (va_A Y sz) s t) : va_F (va_A W sz) s t := ⟨h.1, fun q h1 h2 => h.2 q h1 (fun h3 => h2 (vA_pm hp q h3))⟩
section
variable {l : Launch} {y : MethodName} {cc : ByteArray} {maxL : Nat} {ret : FieldType} {rm : Room} {G : GG} {S : SM} {sz : Nat} {av : List Value} {W Y R W1 Y1 : va_W} {v : Int}
theorem ct_V (h : CtV l y cc maxL rm G S sz av Y Y1) (hp : List.Perm W (Y ++ R)) (hp1 : List.Perm W1 (Y1 ++ R)) : CtV l y cc maxL rm G S sz av W W1 := met_imp h (fun _ _ h => pre_pm hp h) (fun a s o t h1 h2 => by
    obtain ⟨⟨u, e, p, hB⟩, hF⟩ := h2
    exact ⟨⟨u, e, p, wb_pm hp hp1 h1 hB hF⟩, vF_pm hp hF⟩) (vA_pm hp)
theorem ct_I (h : CtI l y cc maxL ret rm G S sz av Y v Y1) (hp : List.Perm W (Y ++ R)) (hp1 : List.Perm W1 (Y1 ++ R)) : CtI l y cc maxL ret rm G S sz av W v W1 := met_imp h (fun _ _ h => pre_pm hp h) (fun a s o t h1 h2 => by
    obtain ⟨⟨r, u, e, p, hB⟩, hF⟩ := h2
    exact ⟨⟨r, u, e, p, wb_pm hp hp1 h1 hB hF⟩, vF_pm hp hF⟩) (vA_pm hp)
theorem ct_L (h : CtL l y cc maxL rm G S sz av Y v Y1) (hp : List.Perm W (Y ++ R)) (hp1 : List.Perm W1 (Y1 ++ R)) : CtL l y cc maxL rm G S sz av W v W1 := met_imp h (fun _ _ h => pre_pm hp h) (fun a s o t h1 h2 => by
    obtain ⟨⟨r, u, e, p, hB⟩, hF⟩ := h2
    exact ⟨⟨r, u, e, p, wb_pm hp hp1 h1 hB hF⟩, vF_pm hp hF⟩) (vA_pm hp)
theorem ct_Ix {wx : (Nat → Nat) → va_W} {Wx : (Nat → Nat) → va_W} (h : CtIx l y cc maxL ret rm G S sz av Y v wx) (hp : List.Perm W (Y ++ R)) (hp1 : ∀ u, List.Perm (Wx u) (wx u ++ R)) : CtIx l y cc maxL ret rm G S sz av W v Wx := met_imp h (fun _ _ h => pre_pm hp h) (fun a s o t h1 h2 => by
    obtain ⟨⟨r, u, e, p, hB⟩, hF⟩ := h2
    exact ⟨⟨r, u, e, p, wb_pm hp (hp1 u) h1 hB hF⟩, vF_pm hp hF⟩) (vA_pm hp)
theorem ct_Lx {wx : (Nat → Nat) → va_W} {Wx : (Nat → Nat) → va_W} (h : CtLx l y cc maxL rm G S sz av Y v wx) (hp : List.Perm W (Y ++ R)) (hp1 : ∀ u, List.Perm (Wx u) (wx u ++ R)) : CtLx l y cc maxL rm G S sz av W v Wx := met_imp h (fun _ _ h => pre_pm hp h) (fun a s o t h1 h2 => by
    obtain ⟨⟨r, u, e, p, hB⟩, hF⟩ := h2
    exact ⟨⟨r, u, e, p, wb_pm hp (hp1 u) h1 hB hF⟩, vF_pm hp hF⟩) (vA_pm hp)
theorem ct_Rx {wx : (Nat → Nat) → Nat → va_W} {Wx : (Nat → Nat) → Nat → va_W} (h : CtRx l y cc maxL ret rm G S sz av Y wx) (hp : List.Perm W (Y ++ R)) (hp1 : ∀ u b, List.Perm (Wx u b) (wx u b ++ R)) : CtRx l y cc maxL ret rm G S sz av W Wx := met_imp h (fun _ _ h => pre_pm hp h) (fun a s o t h1 h2 => by
    obtain ⟨⟨u, b, e, p, hB⟩, hF⟩ := h2
    exact ⟨⟨u, b, e, p, wb_pm hp (hp1 u b) h1 hB hF⟩, vF_pm hp hF⟩) (vA_pm hp)
end
theorem fm_range {Z : va_W} : (List.range Z.length).filterMap (fun i => Z[i]?) = Z := by
  induction Z with
  | nil => rfl
  | cons z Z ih =>
    rw [List.length_cons, List.range_succ_eq_map, List.filterMap_cons]
    show z :: _ = _
    rw [List.filterMap_map]
    exact congrArg (z :: ·) ih
theorem pm_fm {Z X : va_W} (is : List Nat) (hp : is.isPerm (List.range Z.length) = true) (hx : is.filterMap (fun i => Z[i]?) = X) : List.Perm X Z := by
  have h := (List.isPerm_iff.mp hp).filterMap (fun i => Z[i]?)
  rw [hx, fm_range] at h
  exact h
theorem pm_tl {X Y R tl : va_W} (h : List.Perm X (Y ++ R)) : List.Perm (X ++ tl) ((Y ++ tl) ++ R) := by
  refine (h.append_right tl).trans ?_
  rw [List.append_assoc, List.append_assoc]
  exact List.Perm.append_left Y List.perm_append_comm
section
variable {l : Launch} {y : MethodName} {cc : ByteArray} {maxL : Nat} {ret : FieldType} {rm : Room} {G : GG} {S : SM} {sz : Nat} {av : List Value} {X X2 Y Y1 tl tl1 : va_W} {v : Int}
theorem ct_TV (isR isP : List Nat) (h : CtV l y cc maxL rm G S sz av (Y ++ tl) (Y1 ++ tl1)) (hX : isP.filterMap (fun i => (Y ++ isR.filterMap (fun i => X[i]?))[i]?) = X) (hX2 : isP.filterMap (fun i => (Y1 ++ isR.filterMap (fun i => X[i]?))[i]?) = X2) (hp : isP.isPerm (List.range (Y ++ isR.filterMap (fun i => X[i]?)).length) = true) (hp2 : isP.isPerm (List.range (Y1 ++ isR.filterMap (fun i => X[i]?)).length) = true) : CtV l y cc maxL rm G S sz av (X ++ tl) (X2 ++ tl1) := ct_V h (pm_tl (pm_fm isP hp hX)) (pm_tl (pm_fm isP hp2 hX2))
theorem ct_TI (isR isP : List Nat) (h : CtI l y cc maxL ret rm G S sz av (Y ++ tl) v (Y1 ++ tl1)) (hX : isP.filterMap (fun i => (Y ++ isR.filterMap (fun i => X[i]?))[i]?) = X) (hX2 : isP.filterMap (fun i => (Y1 ++ isR.filterMap (fun i => X[i]?))[i]?) = X2) (hp : isP.isPerm (List.range (Y ++ isR.filterMap (fun i => X[i]?)).length) = true) (hp2 : isP.isPerm (List.range (Y1 ++ isR.filterMap (fun i => X[i]?)).length) = true) : CtI l y cc maxL ret rm G S sz av (X ++ tl) v (X2 ++ tl1) := ct_I h (pm_tl (pm_fm isP hp hX)) (pm_tl (pm_fm isP hp2 hX2))
theorem ct_TL (isR isP : List Nat) (h : CtL l y cc maxL rm G S sz av (Y ++ tl) v (Y1 ++ tl1)) (hX : isP.filterMap (fun i => (Y ++ isR.filterMap (fun i => X[i]?))[i]?) = X) (hX2 : isP.filterMap (fun i => (Y1 ++ isR.filterMap (fun i => X[i]?))[i]?) = X2) (hp : isP.isPerm (List.range (Y ++ isR.filterMap (fun i => X[i]?)).length) = true) (hp2 : isP.isPerm (List.range (Y1 ++ isR.filterMap (fun i => X[i]?)).length) = true) : CtL l y cc maxL rm G S sz av (X ++ tl) v (X2 ++ tl1) := ct_L h (pm_tl (pm_fm isP hp hX)) (pm_tl (pm_fm isP hp2 hX2))
theorem ct_TRx {Yx tx : (Nat → Nat) → Nat → va_W} {X2x : (Nat → Nat) → Nat → va_W} (isR isP : List Nat) (h : CtRx l y cc maxL ret rm G S sz av (Y ++ tl) (fun u b => Yx u b ++ tx u b)) (hX : isP.filterMap (fun i => (Y ++ isR.filterMap (fun i => X[i]?))[i]?) = X) (hX2 : ∀ u b, isP.filterMap (fun i => (Yx u b ++ isR.filterMap (fun i => X[i]?))[i]?) = X2x u b) (hp : isP.isPerm (List.range (Y ++ isR.filterMap (fun i => X[i]?)).length) = true) (hp2 : ∀ u b, isP.isPerm (List.range (Yx u b ++ isR.filterMap (fun i => X[i]?)).length) = true) : CtRx l y cc maxL ret rm G S sz av (X ++ tl) (fun u b => X2x u b ++ tx u b) := ct_Rx h (pm_tl (pm_fm isP hp hX)) (fun u b => pm_tl (pm_fm isP (hp2 u b) (hX2 u b)))
end
