/-! the law's loop -/
theorem kI_nat (n : Nat) : Int32.ofNat n = kI (n : Int) := by
  first | rfl | (unfold kI; exact (Int32.ofInt_eq_ofNat (n := n)).symm) | (unfold kI; simp)
set_option maxHeartbeats 4000000 in
set_option maxRecDepth 100000 in
theorem law_loop {p : Program} {l : Launch} {e : Env} {s : State} {m : MethodId} {below : List Frame} {meth : Method} {c : Code} {G : GG} {b L a b' : Nat} {xs : Nat → Int32} (lc : LwC p s m meth c b L xs G) (hL : L ≤ 3072) : ∀ (k j : Nat), 6 * j ≤ L → L < 6 * j + 6 * k → ∀ (S : SM) (X Y : va_W) (H : Heap) (locs : List Loc) (ls : Array Slot), LwS s G S H locs (X ++ Y) → Inv G S (j : Int) a b' X Y → lv_has ls 4 [(0, .ref b), (1, .ref a), (2, .ref b'), (3, .int (kI ((6 * j : Nat) : Int)))] → W p l e room_1 s m #[Value.ref b] below meth c H locs (100 + 5 * j) (80000 + 4000 * j) (lw_Z below #[Value.ref b] s) (F0 m 18 ls []) := by
  intro k
  induction k with
  | zero => intro j h1 h2; omega
  | succ k ih =>
    intro j h1 h2 S X Y H locs ls hs hI hl
    obtain ⟨hx, hb, -, -, -, -, hX, hbl, -⟩ := id lc.1
    have hbA : ¬ (fun q : Nat => s.heap.size ≤ q) b := Nat.not_le.mpr hbl
    have ri : rI ((6 * j : Nat) : Int) := by constructor <;> omega
    refine lv_iload_n hx hb dL_law_18 rfl (lv_at hl 3 rfl) ?_
    refine lv_aload_n hx hb dL_law_19 rfl (lv_at hl 0 rfl) ?_
    refine va_slen hx hb hX hbl hbA hs.1.2.2.1 dL_law_20 ?_
    rw [kI_nat]
    refine lv_bipush (v := kI 6) hx hb dL_law_21 (by decide) ?_
    refine ri_isub hx hb dL_law_23 ?_
    refine ri_icmp_gt (tgt := 1623) hx hb ri (by constructor <;> omega) dL_law_24 (by decide) (fun hg => ?_) (fun hg => ?_)
    · exact ll_end lc hs (by omega) (by omega) dL_law_1623 dL_law_1624
    · have h6 : 6 * j + 6 ≤ L := by omega
      refine lv_aload_n hx hb dL_law_27 rfl (lv_at hl 0 rfl) ?_
      refine lv_iload_n hx hb dL_law_28 rfl (lv_at hl 3 rfl) ?_
      refine va_sld hx hb hX hbl hbA hs.1.2.2.1 (kI_in (by omega) (by omega) (by omega)) dL_law_29 ?_
      refine lv_bipush (v := 63) hx hb dL_law_30 (by decide) ?_
      refine lv_iand hx hb dL_law_32 ?_
      refine cs_all lc hL (i := 6 * j) h6 (z := (j : Int)) (by omega) hs hI hl ⟨by omega, by omega⟩ ?_ _
      intro S X Y H locs hs hI
      refine lv_iinc (v := kI ((6 * (j + 1) : Nat) : Int)) (lv' := [(3, .int (kI ((6 * (j + 1) : Nat) : Int))), (0, .ref b), (1, .ref a), (2, .ref b')]) hx hb dL_law_1617 hl (k := 3) rfl ?_ (by decide) rfl (fun ls hl => ?_)
      · have e6 : ((6 * (j + 1) : Nat) : Int) = ((6 * j : Nat) : Int) + 6 := by omega
        rw [e6, ← kI_add]
        rfl
      · refine lv_goto (tgt := 18) hx hb dL_law_1620 (by decide) ?_
        refine W.widen (k := 100 + 5 * (j + 1)) (n := 80000 + 4000 * (j + 1)) (by omega) (by omega) ?_
        exact ih (j + 1) (by omega) (by omega) S X Y H locs ls hs (hI.mono (by omega)) (lv_sub hl [1, 2, 3, 0] rfl)
