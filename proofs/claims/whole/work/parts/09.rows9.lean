def cAO (G : GG) (n : Nat) (f : Int → Option Nat) : va_E := .inl (G.2.1 4, n, .inr (.inr (.inr (.inr (aD f)))))
theorem HP.cell {G : GG} {A : Nat → Prop} {H0 H : Heap} {locs : List Loc} {ws : va_W} {a : Nat} {e e' : va_E} (hw : HP G A H0 H locs ws) (k : Nat) (he : ws[k]? = some (a, e)) (hat : ∀ H, va_at G.1 vwCl (a, e) H → va_at G.1 vwCl (a, e') H) : HP G A H0 H locs (ws.set k (a, e')) := by
  refine ⟨fun j q hj => ?_, hw.2.1.set he, hw.2.2⟩
  by_cases hjk : k = j
  · subst hjk
    have hl := (List.getElem?_eq_some_iff.mp he).1
    rw [List.getElem?_set_self hl] at hj
    cases hj
    exact hat H (hw.1 k _ he)
  · rw [List.getElem?_set_ne hjk] at hj
    exact hw.1 j q hj
theorem cAO_S {G : GG} {n a : Nat} {f : Int → Option Nat} {g : Int → Nat} (h : ∀ j : Nat, j < n → f (j : Int) = some (g (j : Int))) {H : Heap} (hat : va_at G.1 vwCl (a, cAO G n f) H) : va_at G.1 vwCl (a, cAS G n g) H := by
  have hat : H[a]? = some (arrV (G.2.1 4) n (fun j => va_rf (aD f j))) := hat
  show H[a]? = some (arrV (G.2.1 4) n (fun j => va_rf (aD (fun j => some (g j)) j)))
  rw [hat]
  congr 1
  unfold arrV
  congr 1
  apply Array.ext
  · simp
  · intro i h1 h2
    simp only [Array.getElem_ofFn]
    have hi : i < n := by simpa using h1
    show va_rf (f (i : Int)) = va_rf (some (g (i : Int)))
    rw [h i hi]
section
variable {p : Program} {l : Launch} {e : Env} {R : Room} {s : State} {m : MethodId} {args : Array Value} {below : List Frame} {meth : Method} {c : Code} {H : Heap} {locs : List Loc} {cells slots : Nat} {Q : State → Prop} {cc : ByteArray} {pc : Nat} {ls : Array Slot} {rest : List Value} {own : String} {nL : Nat} {G : GG} {S : SM} {A : Nat → Prop} {ws : va_W} {index : Nat}
theorem ra_newO (hx : p.tables.exec = Jvm.exec) (hb : c.code = cc) (cx : CX p s m args c cc own nL G S A) (hw : HP G A s.heap H locs ws) (lk : Cond.classLink own index "RiskBands$Sample" ∈ lw_g) (hc : cells + 1 ≤ R.cells) (hs : slots + 12 ≤ R.slots) (d : decode cc pc = .ok (.anewarray index, 3)) (k : ∀ q H1, HP G A s.heap H1 locs (ws ++ [(q, cAO G 12 (fun _ => none))]) → W p l e R s m args below meth c H1 locs (cells + 1) (slots + 12) Q (F0 m (pc + 3) ls (.ref q :: rest))) : W p l e R s m args below meth c H locs cells slots Q (F0 m pc ls (.int (kI 12) :: rest)) := by
  have ok := cx.1.2.2.2.2
  refine va_newq hx hb cx.1.2.2.2.1 (ok _ lk) cx.2.2.2.2.2.ao cx.2.1 hw.1 hw.2.1 hw.2.2.1 hw.2.2.2 (N' := 12) (by decide) (by decide) (by decide) hc hs d (fun q cA H1 e0 e1 e2 e3 => ?_)
  obtain ⟨kA, comp, -, -, -, h1⟩ := (e0.2 5 _ rfl).2
  obtain ⟨kA2, comp2, -, -, -, h2⟩ := (cx.2.1.2 4 _ rfl).2
  have h3 : cA = G.2.1 4 := Option.some.inj (h1.symm.trans h2)
  subst h3
  exact k q H1 ⟨e1, e2, e3, hw.2.2.2⟩
theorem ro_ast {a n v : Nat} {vs : List Value} {f : Int → Option Nat} {i : Int} (hx : p.tables.exec = Jvm.exec) (hb : c.code = cc) (cx : CX p s m args c cc own nL G S A) (hw : HP G A s.heap H locs ws) (q0 qk : Nat) (ha : ws[q0]? = some (a, cAO G n f)) (hn : n < 2147483648) (hv : ws[qk]? = some (v, .inr (8, vs))) (g : 0 ≤ i ∧ i < n) (d : decode cc pc = .ok (.aastore, 1)) (k : ∀ H1 locs1, HP G A s.heap H1 locs1 (ws.set q0 (a, cAO G n (uP f i (some v)))) → W p l e R s m args below meth c H1 locs1 cells slots Q (F0 m (pc + 1) ls rest)) : W p l e R s m args below meth c H locs cells slots Q (F0 m pc ls (.ref v :: .int (kI i) :: .ref a :: rest)) := by
  have hr : rI i := by constructor <;> omega
  refine va_astq hx hb cx.2.1 hw.1 hw.2.1 hw.2.2.1 q0 4 qk 8 (r := (RX9, TX9, 4)) ha rfl hv rfl (kI_in hn g.1 g.2) d (fun H1 locs1 e1 e2 e3 => ?_)
  have e : va_up (aD f) (kI i).toNatClampNeg (some v) = aD (uP f i (some v)) := by
    rw [kI_clamp hr g.1]
    funext j
    unfold va_up aD uP
    by_cases h : j = i.toNat
    · rw [if_pos h, if_pos (by omega)]
    · rw [if_neg h, if_neg (by omega)]
  rw [e] at e1 e2
  exact k H1 locs1 ⟨e1, e2, e3, hw.2.2.2⟩
end
