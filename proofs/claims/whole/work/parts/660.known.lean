/-! the start: classes, arrays, texts -/
theorem kn_all {args : Array Value} {s : State} (ok : ∀ w ∈ lw_g, w.before args s = true) : ∀ q ∈ vwCl, ∃ (cC : ClassId) (iS : Nat → Nat), u_Kn s q.1 q.2.1 q.2.2 cC iS :=
  List.forall_mem_cons.mpr ⟨u_known (C := RX0) (T := TX0) (N := 5) (n := 5) ok inX0 (ok _ (lw_in 398 (by decide +kernel) (by decide +kernel))), List.forall_mem_cons.mpr ⟨u_known (C := RX1) (T := TX1) (N := 2) (n := 2) ok inX1 (ok _ (lw_in 119 (by decide +kernel) (by decide +kernel))), List.forall_mem_cons.mpr ⟨u_known (C := RX2) (T := TX2) (N := 7) (n := 7) ok inX2 (ok _ (lw_in 364 (by decide +kernel) (by decide +kernel))), List.forall_mem_cons.mpr ⟨u_known (C := RX3) (T := TX3) (N := 4) (n := 4) ok inX3 (ok _ (lw_in 345 (by decide +kernel) (by decide +kernel))), List.forall_mem_cons.mpr ⟨u_known (C := RX4) (T := TX4) (N := 6) (n := 6) ok inX4 (ok _ (lw_in 294 (by decide +kernel) (by decide +kernel))), List.forall_mem_cons.mpr ⟨u_known (C := RX6) (T := TX6) (N := 8) (n := 8) ok inX6 (ok _ (lw_in 210 (by decide +kernel) (by decide +kernel))), List.forall_mem_cons.mpr ⟨u_known (C := RX7) (T := TX7) (N := 16) (n := 16) ok inX7 (ok _ (lw_in 140 (by decide +kernel) (by decide +kernel))), List.forall_mem_cons.mpr ⟨u_known (C := RX8) (T := TX8) (N := 6) (n := 6) ok inX8 (ok _ (lw_in 253 (by decide +kernel) (by decide +kernel))), List.forall_mem_cons.mpr ⟨u_known (C := RX9) (T := TX9) (N := 4) (n := 4) ok inX9 (ok _ (lw_in 425 (by decide +kernel) (by decide +kernel))), List.forall_mem_cons.mpr ⟨u_known (C := RX10) (T := TX10) (N := 5) (n := 5) ok inX10 (ok _ (lw_in 1065 (by decide +kernel) (by decide +kernel))), List.forall_mem_cons.mpr ⟨u_known (C := RX11) (T := TX11) (N := 3) (n := 3) ok inX11 (ok _ (lw_in 326 (by decide +kernel) (by decide +kernel))), List.forall_mem_cons.mpr ⟨u_known (C := RX12) (T := TX12) (N := 20) (n := 20) ok inX12 (ok _ (lw_in 111 (by decide +kernel) (by decide +kernel))), List.forall_mem_cons.mpr ⟨u_known (C := RX13) (T := TX13) (N := 38) (n := 38) ok inX13 (ok _ (lw_in 1296 (by decide +kernel) (by decide +kernel))), fun _ h => absurd h List.not_mem_nil⟩⟩⟩⟩⟩⟩⟩⟩⟩⟩⟩⟩⟩
theorem kn_cls {args : Array Value} {s : State} (ok : ∀ w ∈ lw_g, w.before args s = true) : ∃ D : va_G, ∀ (k : Nat) (q : vw_C), vwCl[k]? = some q → u_Kn s q.1 q.2.1 q.2.2 (D.1 k) (D.2 k) := by
  have h0 : ∀ k : Nat, ∃ d : ClassId × (Nat → Nat), ∀ q, vwCl[k]? = some q → u_Kn s q.1 q.2.1 q.2.2 d.1 d.2 := fun k => by
    cases h : vwCl[k]? with
    | none => exact ⟨(0, fun _ => 0), fun q hq => by cases hq⟩
    | some q =>
      obtain ⟨cC, iS, hk⟩ := kn_all ok q (List.mem_of_getElem? h)
      exact ⟨(cC, iS), fun q' hq => by cases hq; exact hk⟩
  obtain ⟨d, hd⟩ := Classical.axiomOfChoice h0
  exact ⟨(fun k => (d k).1, fun k => (d k).2), hd⟩
theorem kn_arr {args : Array Value} {s : State} {ty : FieldType} (h : (Cond.arrayClass ty).before args s = true) : ∃ cA : ClassId, ArrOfT s cA ty ∧ s.vm.findClass ("[" ++ ty.toString) = some cA := by
  obtain ⟨cA, kA, comp, h1, h2, h3⟩ := Cond.arrayClass_spec h
  exact ⟨cA, fun n z => ⟨(fun k h => by cases h), kA, h2, comp, h3⟩, h1⟩
theorem kn_aro {s : State} {C : String} (h : va_AO C s) : ∃ cA : ClassId, ArrOfT s cA (.object C) ∧ va_RA s cA (.object C) := by
  obtain ⟨comp, c, k, h1, h2, h3, h4, h5⟩ := Cond.arrayOver_spec h
  exact ⟨c, fun N z => ⟨(fun k h => by cases h), k, h3, comp, h4⟩, k, comp, h3, h4, h1, h5⟩
def arC (a0 a1 a2 a3 a4 : ClassId) : Nat → ClassId := fun k => match k with
  | 0 => a0
  | 1 => a1
  | 2 => a2
  | 3 => a3
  | _ => a4
def tmS : Nat → Term := fun i => match i with
  | 0 => .string "RiskBands$Reader" 73
  | 1 => .string "RiskBands$Reader" 82
  | 2 => .string "RiskBands$Reader" 90
  | 3 => .string "RiskBands$Reader" 91
  | 4 => .string "RiskBands$Reader" 97
  | 5 => .string "RiskBands$Reader" 102
  | _ => .string "RiskBands$Reader" 103
theorem six {i : Nat} (h : i < 7) : i = 0 ∨ i = 1 ∨ i = 2 ∨ i = 3 ∨ i = 4 ∨ i = 5 ∨ i = 6 := by omega
set_option maxRecDepth 100000 in
theorem sx_ex {args : Array Value} {s : State} (h : (Jvm.Cond.and given_1 narrow_1).before args s = true) : ∀ i : Nat, i < 7 → (Cond.exactly (tmS i) "java/lang/String").before args s = true := by
  have hs := flat_of_before _ h
  intro i hi
  rcases six hi with rfl | rfl | rfl | rfl | rfl | rfl | rfl
  · exact hs _ (by decide +kernel)
  · exact hs _ (by decide +kernel)
  · exact hs _ (by decide +kernel)
  · exact hs _ (by decide +kernel)
  · exact hs _ (by decide +kernel)
  · exact hs _ (by decide +kernel)
  · exact hs _ (by decide +kernel)
set_option maxRecDepth 100000 in
theorem sx_co {args : Array Value} {s : State} (h : (Jvm.Cond.and given_1 narrow_1).before args s = true) : ∀ i : Nat, i < 7 → (Cond.eq (.field (tmS i) "java/lang/String" "coder" "B") (.int 0)).before args s = true := by
  have hs := flat_of_before _ h
  intro i hi
  rcases six hi with rfl | rfl | rfl | rfl | rfl | rfl | rfl
  · exact hs _ (by decide +kernel)
  · exact hs _ (by decide +kernel)
  · exact hs _ (by decide +kernel)
  · exact hs _ (by decide +kernel)
  · exact hs _ (by decide +kernel)
  · exact hs _ (by decide +kernel)
  · exact hs _ (by decide +kernel)
set_option maxRecDepth 100000 in
theorem sx_ar {args : Array Value} {s : State} (h : (Jvm.Cond.and given_1 narrow_1).before args s = true) : ∀ i : Nat, i < 7 → (Cond.arrayOf (.field (tmS i) "java/lang/String" "value" "[B") .byte).before args s = true := by
  have hs := flat_of_before _ h
  intro i hi
  rcases six hi with rfl | rfl | rfl | rfl | rfl | rfl | rfl
  · exact hs _ (by decide +kernel)
  · exact hs _ (by decide +kernel)
  · exact hs _ (by decide +kernel)
  · exact hs _ (by decide +kernel)
  · exact hs _ (by decide +kernel)
  · exact hs _ (by decide +kernel)
  · exact hs _ (by decide +kernel)
set_option maxRecDepth 100000 in
theorem sx_le {args : Array Value} {s : State} (h : (Jvm.Cond.and given_1 narrow_1).before args s = true) : ∀ i : Nat, i < 7 → (Cond.eq (.length (.field (tmS i) "java/lang/String" "value" "[B")) (.int (Int32.ofNat ([2, 5, 4, 4, 4, 3, 4].getD i 0)))).before args s = true := by
  have hs := flat_of_before _ h
  intro i hi
  rcases six hi with rfl | rfl | rfl | rfl | rfl | rfl | rfl
  · exact hs _ (by decide +kernel)
  · exact hs _ (by decide +kernel)
  · exact hs _ (by decide +kernel)
  · exact hs _ (by decide +kernel)
  · exact hs _ (by decide +kernel)
  · exact hs _ (by decide +kernel)
  · exact hs _ (by decide +kernel)
set_option maxRecDepth 100000 in
theorem sx_el {args : Array Value} {s : State} (h : (Jvm.Cond.and given_1 narrow_1).before args s = true) : ∀ i : Nat, i < 7 → ∀ j : Nat, j < [2, 5, 4, 4, 4, 3, 4].getD i 0 → (Cond.eq (.elem (.field (tmS i) "java/lang/String" "value" "[B") (.int (Int32.ofNat j))) (.int (([stY 0, stY 1, stY 2, stY 3, stY 4, stY 5, stY 6].getD i []).getD j 0))).before args s = true := by
  have hs := flat_of_before _ h
  intro i hi
  rcases six hi with rfl | rfl | rfl | rfl | rfl | rfl | rfl
  · intro j hj
    have hj : j < 2 := hj
    rcases (show j = 0 ∨ j = 1 by omega) with rfl | rfl
    · exact hs _ (by decide +kernel)
    · exact hs _ (by decide +kernel)
  · intro j hj
    have hj : j < 5 := hj
    rcases (show j = 0 ∨ j = 1 ∨ j = 2 ∨ j = 3 ∨ j = 4 by omega) with rfl | rfl | rfl | rfl | rfl
    · exact hs _ (by decide +kernel)
    · exact hs _ (by decide +kernel)
    · exact hs _ (by decide +kernel)
    · exact hs _ (by decide +kernel)
    · exact hs _ (by decide +kernel)
  · intro j hj
    have hj : j < 4 := hj
    rcases (show j = 0 ∨ j = 1 ∨ j = 2 ∨ j = 3 by omega) with rfl | rfl | rfl | rfl
    · exact hs _ (by decide +kernel)
    · exact hs _ (by decide +kernel)
    · exact hs _ (by decide +kernel)
    · exact hs _ (by decide +kernel)
  · intro j hj
    have hj : j < 4 := hj
    rcases (show j = 0 ∨ j = 1 ∨ j = 2 ∨ j = 3 by omega) with rfl | rfl | rfl | rfl
    · exact hs _ (by decide +kernel)
    · exact hs _ (by decide +kernel)
    · exact hs _ (by decide +kernel)
    · exact hs _ (by decide +kernel)
  · intro j hj
    have hj : j < 4 := hj
    rcases (show j = 0 ∨ j = 1 ∨ j = 2 ∨ j = 3 by omega) with rfl | rfl | rfl | rfl
    · exact hs _ (by decide +kernel)
    · exact hs _ (by decide +kernel)
    · exact hs _ (by decide +kernel)
    · exact hs _ (by decide +kernel)
  · intro j hj
    have hj : j < 3 := hj
    rcases (show j = 0 ∨ j = 1 ∨ j = 2 by omega) with rfl | rfl | rfl
    · exact hs _ (by decide +kernel)
    · exact hs _ (by decide +kernel)
    · exact hs _ (by decide +kernel)
  · intro j hj
    have hj : j < 4 := hj
    rcases (show j = 0 ∨ j = 1 ∨ j = 2 ∨ j = 3 by omega) with rfl | rfl | rfl | rfl
    · exact hs _ (by decide +kernel)
    · exact hs _ (by decide +kernel)
    · exact hs _ (by decide +kernel)
    · exact hs _ (by decide +kernel)
set_option maxRecDepth 100000 in
theorem sx_ne {args : Array Value} {s : State} (h : (Jvm.Cond.and given_1 narrow_1).before args s = true) : ∀ i j : Nat, i < 7 → j < 7 → i ≠ j → (Cond.not (Cond.eq (tmS i) (tmS j))).before args s = true ∨ (Cond.not (Cond.eq (tmS j) (tmS i))).before args s = true := by
  have hs := flat_of_before _ h
  intro i j hi hj
  rcases six hi with rfl | rfl | rfl | rfl | rfl | rfl | rfl
  · intro hn
    rcases six hj with rfl | rfl | rfl | rfl | rfl | rfl | rfl
    · exact absurd rfl hn
    · exact Or.inl (hs _ (by decide +kernel))
    · exact Or.inl (hs _ (by decide +kernel))
    · exact Or.inl (hs _ (by decide +kernel))
    · exact Or.inl (hs _ (by decide +kernel))
    · exact Or.inl (hs _ (by decide +kernel))
    · exact Or.inl (hs _ (by decide +kernel))
  · intro hn
    rcases six hj with rfl | rfl | rfl | rfl | rfl | rfl | rfl
    · exact Or.inr (hs _ (by decide +kernel))
    · exact absurd rfl hn
    · exact Or.inl (hs _ (by decide +kernel))
    · exact Or.inl (hs _ (by decide +kernel))
    · exact Or.inr (hs _ (by decide +kernel))
    · exact Or.inr (hs _ (by decide +kernel))
    · exact Or.inr (hs _ (by decide +kernel))
  · intro hn
    rcases six hj with rfl | rfl | rfl | rfl | rfl | rfl | rfl
    · exact Or.inr (hs _ (by decide +kernel))
    · exact Or.inr (hs _ (by decide +kernel))
    · exact absurd rfl hn
    · exact Or.inl (hs _ (by decide +kernel))
    · exact Or.inr (hs _ (by decide +kernel))
    · exact Or.inr (hs _ (by decide +kernel))
    · exact Or.inr (hs _ (by decide +kernel))
  · intro hn
    rcases six hj with rfl | rfl | rfl | rfl | rfl | rfl | rfl
    · exact Or.inr (hs _ (by decide +kernel))
    · exact Or.inr (hs _ (by decide +kernel))
    · exact Or.inr (hs _ (by decide +kernel))
    · exact absurd rfl hn
    · exact Or.inr (hs _ (by decide +kernel))
    · exact Or.inr (hs _ (by decide +kernel))
    · exact Or.inr (hs _ (by decide +kernel))
  · intro hn
    rcases six hj with rfl | rfl | rfl | rfl | rfl | rfl | rfl
    · exact Or.inr (hs _ (by decide +kernel))
    · exact Or.inl (hs _ (by decide +kernel))
    · exact Or.inl (hs _ (by decide +kernel))
    · exact Or.inl (hs _ (by decide +kernel))
    · exact absurd rfl hn
    · exact Or.inl (hs _ (by decide +kernel))
    · exact Or.inl (hs _ (by decide +kernel))
  · intro hn
    rcases six hj with rfl | rfl | rfl | rfl | rfl | rfl | rfl
    · exact Or.inr (hs _ (by decide +kernel))
    · exact Or.inl (hs _ (by decide +kernel))
    · exact Or.inl (hs _ (by decide +kernel))
    · exact Or.inl (hs _ (by decide +kernel))
    · exact Or.inr (hs _ (by decide +kernel))
    · exact absurd rfl hn
    · exact Or.inl (hs _ (by decide +kernel))
  · intro hn
    rcases six hj with rfl | rfl | rfl | rfl | rfl | rfl | rfl
    · exact Or.inr (hs _ (by decide +kernel))
    · exact Or.inl (hs _ (by decide +kernel))
    · exact Or.inl (hs _ (by decide +kernel))
    · exact Or.inl (hs _ (by decide +kernel))
    · exact Or.inr (hs _ (by decide +kernel))
    · exact Or.inr (hs _ (by decide +kernel))
    · exact absurd rfl hn
set_option maxRecDepth 100000 in
theorem sx_mo {args : Array Value} {s : State} (h : (Jvm.Cond.and given_1 narrow_1).before args s = true) : (Cond.eq (Term.string "RiskBands$Reader" 73) (Term.string "RiskBandsModel" 159)).before args s = true ∧ (Cond.eq (Term.string "RiskBands$Reader" 82) (Term.string "RiskBandsModel" 163)).before args s = true ∧ (Cond.eq (Term.string "RiskBands$Reader" 90) (Term.string "RiskBandsModel" 169)).before args s = true ∧ (Cond.eq (Term.string "RiskBands$Reader" 91) (Term.string "RiskBandsModel" 171)).before args s = true ∧ (Cond.eq (Term.string "RiskBands$Reader" 97) (Term.string "RiskBandsModel" 151)).before args s = true ∧ (Cond.eq (Term.string "RiskBands$Reader" 102) (Term.string "RiskBandsModel" 156)).before args s = true ∧ (Cond.eq (Term.string "RiskBands$Reader" 103) (Term.string "RiskBandsModel" 157)).before args s = true := by
  have hs := flat_of_before _ h
  exact ⟨hs _ (by decide +kernel), hs _ (by decide +kernel), hs _ (by decide +kernel), hs _ (by decide +kernel), hs _ (by decide +kernel), hs _ (by decide +kernel), hs _ (by decide +kernel)⟩
set_option maxRecDepth 100000 in
theorem sx_st {args : Array Value} {s : State} (h : (Jvm.Cond.and given_1 narrow_1).before args s = true) : (Cond.eq (.static "java/lang/String" "COMPACT_STRINGS" "Z") (.int 1)).before args s = true ∧ (Cond.isRef (.static "jdk/internal/util/Preconditions" "SIOOBE_FORMATTER" "Ljava/util/function/BiFunction;")).before args s = true := by
  have hs := flat_of_before _ h
  exact ⟨hs _ (by decide +kernel), hs _ (by decide +kernel)⟩
