theorem dJ0_length_8abf5_0 : decode cJ0_length_8abf5 0 = .ok (.aload_n 0, 1) := by decide +kernel
theorem dJ0_length_8abf5_1 : decode cJ0_length_8abf5 1 = .ok (.getfield 9, 3) := by decide +kernel
theorem dJ0_length_8abf5_4 : decode cJ0_length_8abf5 4 = .ok (.arraylength, 1) := by decide +kernel
theorem dJ0_length_8abf5_5 : decode cJ0_length_8abf5 5 = .ok (.aload_n 0, 1) := by decide +kernel
theorem dJ0_length_8abf5_6 : decode cJ0_length_8abf5 6 = .ok (.invokevirtual 335, 3) := by decide +kernel
theorem dJ0_length_8abf5_9 : decode cJ0_length_8abf5 9 = .ok (.ishr, 1) := by decide +kernel
theorem dJ0_length_8abf5_10 : decode cJ0_length_8abf5 10 = .ok (.ireturn, 1) := by decide +kernel
theorem dJ0_charAt_5068e_0 : decode cJ0_charAt_5068e 0 = .ok (.aload_n 0, 1) := by decide +kernel
theorem dJ0_charAt_5068e_1 : decode cJ0_charAt_5068e 1 = .ok (.invokevirtual 492, 3) := by decide +kernel
theorem dJ0_charAt_5068e_4 : decode cJ0_charAt_5068e 4 = .ok (.ifCond .eq 12, 3) := by decide +kernel
theorem dJ0_charAt_5068e_7 : decode cJ0_charAt_5068e 7 = .ok (.aload_n 0, 1) := by decide +kernel
theorem dJ0_charAt_5068e_8 : decode cJ0_charAt_5068e 8 = .ok (.getfield 9, 3) := by decide +kernel
theorem dJ0_charAt_5068e_11 : decode cJ0_charAt_5068e 11 = .ok (.iload_n 1, 1) := by decide +kernel
theorem dJ0_charAt_5068e_12 : decode cJ0_charAt_5068e 12 = .ok (.invokestatic 495, 3) := by decide +kernel
theorem dJ0_charAt_5068e_15 : decode cJ0_charAt_5068e 15 = .ok (.ireturn, 1) := by decide +kernel
theorem dJ0_charAt_5068e_16 : decode cJ0_charAt_5068e 16 = .ok (.aload_n 0, 1) := by decide +kernel
theorem dJ0_charAt_5068e_17 : decode cJ0_charAt_5068e 17 = .ok (.getfield 9, 3) := by decide +kernel
theorem dJ0_charAt_5068e_20 : decode cJ0_charAt_5068e 20 = .ok (.iload_n 1, 1) := by decide +kernel
theorem dJ0_charAt_5068e_21 : decode cJ0_charAt_5068e 21 = .ok (.invokestatic 498, 3) := by decide +kernel
theorem dJ0_charAt_5068e_24 : decode cJ0_charAt_5068e 24 = .ok (.ireturn, 1) := by decide +kernel
theorem dJ0_coder_7d493_0 : decode cJ0_coder_7d493 0 = .ok (.getstatic 38, 3) := by decide +kernel
theorem dJ0_coder_7d493_3 : decode cJ0_coder_7d493 3 = .ok (.ifCond .eq 10, 3) := by decide +kernel
theorem dJ0_coder_7d493_6 : decode cJ0_coder_7d493 6 = .ok (.aload_n 0, 1) := by decide +kernel
theorem dJ0_coder_7d493_7 : decode cJ0_coder_7d493 7 = .ok (.getfield 15, 3) := by decide +kernel
theorem dJ0_coder_7d493_10 : decode cJ0_coder_7d493 10 = .ok (.goto 4, 3) := by decide +kernel
theorem dJ0_coder_7d493_13 : decode cJ0_coder_7d493 13 = .ok (.iconst 1, 1) := by decide +kernel
theorem dJ0_coder_7d493_14 : decode cJ0_coder_7d493 14 = .ok (.ireturn, 1) := by decide +kernel
theorem dJ0_isLatin1_aae02_0 : decode cJ0_isLatin1_aae02 0 = .ok (.getstatic 38, 3) := by decide +kernel
theorem dJ0_isLatin1_aae02_3 : decode cJ0_isLatin1_aae02 3 = .ok (.ifCond .eq 14, 3) := by decide +kernel
theorem dJ0_isLatin1_aae02_6 : decode cJ0_isLatin1_aae02 6 = .ok (.aload_n 0, 1) := by decide +kernel
theorem dJ0_isLatin1_aae02_7 : decode cJ0_isLatin1_aae02 7 = .ok (.getfield 15, 3) := by decide +kernel
theorem dJ0_isLatin1_aae02_10 : decode cJ0_isLatin1_aae02 10 = .ok (.ifCond .ne 7, 3) := by decide +kernel
theorem dJ0_isLatin1_aae02_13 : decode cJ0_isLatin1_aae02 13 = .ok (.iconst 1, 1) := by decide +kernel
theorem dJ0_isLatin1_aae02_14 : decode cJ0_isLatin1_aae02 14 = .ok (.goto 4, 3) := by decide +kernel
theorem dJ0_isLatin1_aae02_17 : decode cJ0_isLatin1_aae02 17 = .ok (.iconst 0, 1) := by decide +kernel
theorem dJ0_isLatin1_aae02_18 : decode cJ0_isLatin1_aae02 18 = .ok (.ireturn, 1) := by decide +kernel
theorem dJ0_checkIndex_df160_0 : decode cJ0_checkIndex_df160 0 = .ok (.iload_n 0, 1) := by decide +kernel
theorem dJ0_checkIndex_df160_1 : decode cJ0_checkIndex_df160 1 = .ok (.iload_n 1, 1) := by decide +kernel
theorem dJ0_checkIndex_df160_2 : decode cJ0_checkIndex_df160 2 = .ok (.getstatic 1053, 3) := by decide +kernel
theorem dJ0_checkIndex_df160_5 : decode cJ0_checkIndex_df160 5 = .ok (.invokestatic 1059, 3) := by decide +kernel
theorem dJ0_checkIndex_df160_8 : decode cJ0_checkIndex_df160 8 = .ok (.pop, 1) := by decide +kernel
theorem dJ0_checkIndex_df160_9 : decode cJ0_checkIndex_df160 9 = .ok (.return_, 1) := by decide +kernel
theorem dJ1_charAt_3b067_0 : decode cJ1_charAt_3b067 0 = .ok (.iload_n 1, 1) := by decide +kernel
theorem dJ1_charAt_3b067_1 : decode cJ1_charAt_3b067 1 = .ok (.aload_n 0, 1) := by decide +kernel
theorem dJ1_charAt_3b067_2 : decode cJ1_charAt_3b067 2 = .ok (.arraylength, 1) := by decide +kernel
theorem dJ1_charAt_3b067_3 : decode cJ1_charAt_3b067 3 = .ok (.invokestatic 9, 3) := by decide +kernel
theorem dJ1_charAt_3b067_6 : decode cJ1_charAt_3b067 6 = .ok (.aload_n 0, 1) := by decide +kernel
theorem dJ1_charAt_3b067_7 : decode cJ1_charAt_3b067 7 = .ok (.iload_n 1, 1) := by decide +kernel
theorem dJ1_charAt_3b067_8 : decode cJ1_charAt_3b067 8 = .ok (.baload, 1) := by decide +kernel
theorem dJ1_charAt_3b067_9 : decode cJ1_charAt_3b067 9 = .ok (.sipush 255, 3) := by decide +kernel
theorem dJ1_charAt_3b067_12 : decode cJ1_charAt_3b067 12 = .ok (.iand, 1) := by decide +kernel
theorem dJ1_charAt_3b067_13 : decode cJ1_charAt_3b067 13 = .ok (.i2c, 1) := by decide +kernel
theorem dJ1_charAt_3b067_14 : decode cJ1_charAt_3b067 14 = .ok (.ireturn, 1) := by decide +kernel
theorem dJ3_checkIndex_8e157_0 : decode cJ3_checkIndex_8e157 0 = .ok (.iload_n 0, 1) := by decide +kernel
theorem dJ3_checkIndex_8e157_1 : decode cJ3_checkIndex_8e157 1 = .ok (.ifCond .lt 8, 3) := by decide +kernel
theorem dJ3_checkIndex_8e157_4 : decode cJ3_checkIndex_8e157 4 = .ok (.iload_n 0, 1) := by decide +kernel
theorem dJ3_checkIndex_8e157_5 : decode cJ3_checkIndex_8e157 5 = .ok (.iload_n 1, 1) := by decide +kernel
theorem dJ3_checkIndex_8e157_6 : decode cJ3_checkIndex_8e157 6 = .ok (.if_icmp .lt 10, 3) := by decide +kernel
theorem dJ3_checkIndex_8e157_9 : decode cJ3_checkIndex_8e157 9 = .ok (.aload_n 2, 1) := by decide +kernel
theorem dJ3_checkIndex_8e157_10 : decode cJ3_checkIndex_8e157 10 = .ok (.iload_n 0, 1) := by decide +kernel
theorem dJ3_checkIndex_8e157_11 : decode cJ3_checkIndex_8e157 11 = .ok (.iload_n 1, 1) := by decide +kernel
theorem dJ3_checkIndex_8e157_12 : decode cJ3_checkIndex_8e157 12 = .ok (.invokestatic 95, 3) := by decide +kernel
theorem dJ3_checkIndex_8e157_15 : decode cJ3_checkIndex_8e157 15 = .ok (.athrow, 1) := by decide +kernel
theorem dJ3_checkIndex_8e157_16 : decode cJ3_checkIndex_8e157 16 = .ok (.iload_n 0, 1) := by decide +kernel
theorem dJ3_checkIndex_8e157_17 : decode cJ3_checkIndex_8e157 17 = .ok (.ireturn, 1) := by decide +kernel
theorem re_n {p : Program} {l : Launch} {e : Env} {R : Room} {s : State} {m : MethodId} {args : Array Value} {below : List Frame} {meth : Method} {c : Code} {H : Heap} {locs : List Loc} {cells slots : Nat} {cc : ByteArray} {pc : Nat} {ls : Array Slot} {own : String} {nL : Nat} {G : GG} {S : SM} {A : Nat → Prop} {v : Int} {w1 : va_W} {ty : FieldType} (gv : narrow ty (.int (kI v)) = .int (kI v)) (hx : p.tables.exec = Jvm.exec) (hb : c.code = cc) (hlk : meth.locks = false) (hr : meth.sig.returnType = some ty) (cx : CX p s m args c cc own nL G S A) (hw : HP G A s.heap H locs w1) (hc : cells ≤ R.cells) (hs : slots ≤ R.slots) (d : decode cc pc = .ok (.ireturn, 1)) : W p l e R s m args below meth c H locs cells slots (MQ below (QcI G A v w1) args s R.cells R.slots A) (F0 m pc ls [.int (kI v)]) :=
  W.widen hc hs (W.zret hx hb hr gv (fun t ht hW => ⟨⟨_, (), rfl, rfl, by rw [ht]; exact hw.1, va_K.moved hW.alike cx.2.1, hw.2.1⟩, hw.2.2.1.F ht⟩) hw.2.2.1.2.2 d hlk)
section
variable {p : Program} {l : Launch} {e : Env} {R : Room} {s : State} {m : MethodId} {args : Array Value} {below : List Frame} {meth : Method} {c : Code} {H : Heap} {locs : List Loc} {cells slots : Nat} {Q : State → Prop} {cc : ByteArray} {pc : Nat} {ls : Array Slot} {rest : List Value} {own : String} {nL : Nat} {G : GG} {S : SM} {A : Nat → Prop} {ws wc w1 w2 : va_W} {H0 : Heap} {st0 : List Value} {y : MethodName} {bytes : ByteArray} {maxL n index : Nat} {ret : Option FieldType} {rm : Room} {Qc : Array Value → State → Outcome → State → Prop} {free : Addr → Prop} {As : List Value} {b : Nat}
/-- a call of a method of an object that lies outside -/
theorem rr_VX (cx : CX p s m args c cc own nL G S A) (hw : HP G A s.heap H locs ws) (M : Met l y (.code y bytes maxL ret :: lw_g) rm (PreC G S H.size (.ref b :: As) []) Qc rm.cells rm.slots free) (mv : MV own index y bytes maxL ret n) (hrec : ∃ cellB : Cell, H[b]? = some cellB ∧ cellB.vm.isStatics = false ∧ s.vm.findClass y.cls = some cellB.cls)
    (hR : rm.frames + 1 ≤ R.frames ∧ 8 + (maxL + 11) + rm.locals ≤ R.locals) (hn : As.length = n) (hsize : ls.size = nL) (hst : st0 = As.reverse ++ .ref b :: rest) (hW : (rest.map fun v => v.category).sum ≤ 8) (d : decode cc pc = .ok (.invokevirtual index, 3)) (hf : cells + rm.cells ≤ R.cells ∧ slots + rm.slots ≤ R.slots) :
    va_Run p l e R s m args below meth c H locs cells slots rm.cells rm.slots (F0 m pc ls st0) rest (Qc (Value.ref b :: As).toArray) free := by
  have ok : ∀ w ∈ lw_g, w.before args s = true := cx.1.2.2.2.2
  refine va_runV (As := As) (b := b) (C := y.cls) cx.1 M ⟨callB_of n ok (wd_code mv.2.2.2.2.1) rfl rfl rfl (ok _ mv.2.2.2.1) (ok _ mv.1) mv.2.2.2.2.2 hR, ok _ mv.2.1, ok _ mv.2.2.1⟩ ⟨pre_blind, hrec, fun U hU hW => ⟨rfl, by rw [hU], (fun k q h => by simp at h), ⟨va_K.moved hW.alike cx.2.1, ef_next cx hw (hp_free hw [] rfl rfl) hU hW⟩, ⟨fun i j p q h => by simp at h, fun k q h => by simp at h⟩⟩⟩ rfl hn hsize hst (lv_room hW) d hf
theorem sx_recv (cx : CX p s m args c cc own nL G S A) (hw : HP G A s.heap H locs ws) {k : Nat} (hk : k < 7) : ∃ cellB : Cell, H[G.2.2.1 k]? = some cellB ∧ cellB.vm.isStatics = false ∧ s.vm.findClass "java/lang/String" = some cellB.cls := vk_recv cx.2.2.2.1.1 hk hw.2.2.1
end
theorem st_len : ∀ k, k < 7 → stLen k = (([2, 5, 4, 4, 4, 3, 4].getD k 0 : Nat) : Int) := by decide +kernel
theorem st_len2 : ∀ k, k < 7 → [2, 5, 4, 4, 4, 3, 4].getD k 0 < 10 := by decide +kernel
def stT : List (List Int32) := [stY 0, stY 1, stY 2, stY 3, stY 4, stY 5, stY 6]
theorem st_tab : ∀ k, k < 7 → ∀ j, j < [2, 5, 4, 4, 4, 3, 4].getD k 0 → ((((stT.getD k []).getD j 0 &&& 255).toUInt32 % 65536).toInt32 = kI ((stB.getD k []).getD j 0) ∧ narrow .char (.int (kI ((stB.getD k []).getD j 0))) = .int (kI ((stB.getD k []).getD j 0))) := by decide +kernel
theorem sw_38 : Cond.fieldLink "java/lang/String" 38 "java/lang/String" "COMPACT_STRINGS" "Z" ∈ lw_g := lw_in 587 (by decide +kernel) (by decide +kernel)
theorem sw_9 : Cond.fieldLink "java/lang/String" 9 "java/lang/String" "value" "[B" ∈ lw_g := lw_in 1925 (by decide +kernel) (by decide +kernel)
theorem sw_15 : Cond.fieldLink "java/lang/String" 15 "java/lang/String" "coder" "B" ∈ lw_g := lw_in 1926 (by decide +kernel) (by decide +kernel)
theorem sw_1053 : Cond.fieldLink "java/lang/String" 1053 "jdk/internal/util/Preconditions" "SIOOBE_FORMATTER" "Ljava/util/function/BiFunction;" ∈ lw_g := lw_in 603 (by decide +kernel) (by decide +kernel)
theorem sv_335 : MV RJ0 335 yJ0_coder_7d493 cJ0_coder_7d493 1 (some .byte) 0 := ⟨lw_in 583 (by decide +kernel) (by decide +kernel), lw_in 584 (by decide +kernel) (by decide +kernel), lw_in 585 (by decide +kernel) (by decide +kernel), lw_in 100 (by decide +kernel) (by decide +kernel), lw_in 586 (by decide +kernel) (by decide +kernel), by decide +kernel⟩
theorem sv_492 : MV RJ0 492 yJ0_isLatin1_aae02 cJ0_isLatin1_aae02 1 (some .boolean) 0 := ⟨lw_in 593 (by decide +kernel) (by decide +kernel), lw_in 594 (by decide +kernel) (by decide +kernel), lw_in 595 (by decide +kernel) (by decide +kernel), lw_in 100 (by decide +kernel) (by decide +kernel), lw_in 596 (by decide +kernel) (by decide +kernel), by decide +kernel⟩
theorem sv_495 : MS RJ0 495 yJ1_charAt_3b067 cJ1_charAt_3b067 2 (some .char) 2 := ⟨lw_in 597 (by decide +kernel) (by decide +kernel), lw_in 598 (by decide +kernel) (by decide +kernel), lw_in 101 (by decide +kernel) (by decide +kernel), lw_in 599 (by decide +kernel) (by decide +kernel), by decide +kernel⟩
theorem sv_9 : MS RJ1 9 yJ0_checkIndex_df160 cJ0_checkIndex_df160 2 none 2 := ⟨lw_in 600 (by decide +kernel) (by decide +kernel), lw_in 601 (by decide +kernel) (by decide +kernel), lw_in 100 (by decide +kernel) (by decide +kernel), lw_in 602 (by decide +kernel) (by decide +kernel), by decide +kernel⟩
theorem sv_1059 : MS RJ0 1059 yJ3_checkIndex_8e157 cJ3_checkIndex_8e157 3 (some .int) 3 := ⟨lw_in 605 (by decide +kernel) (by decide +kernel), lw_in 606 (by decide +kernel) (by decide +kernel), lw_in 102 (by decide +kernel) (by decide +kernel), lw_in 607 (by decide +kernel) (by decide +kernel), by decide +kernel⟩
set_option maxHeartbeats 4000000 in
theorem c_J3_checkIndex (l : Launch) (G : GG) (S : SM) (sz : Nat) (i n : Int) (V : Value) (hV : V = .null ∨ ∃ t, V = .ref t) (h : 0 ≤ i ∧ i < n) (hn : rI n) : CtI l yJ3_checkIndex_8e157 cJ3_checkIndex_8e157 3 .int (rmD 1 0 0) G S sz [.int (kI i), .int (kI n), V] [] i [] := by
  have hi : rI i := by constructor <;> omega
  have h0 : rI 0 := ⟨by decide, by decide⟩
  refine met_of (Qc := fun A => QcI G A i []) (by decide +kernel) (by rcases hV with rfl | ⟨t, rfl⟩ <;> exact Nat.le_of_ble_eq_true rfl) ?_
  intro p e s m args below meth c A H locs ls cx hw hr hlk hnm hl
  have hl : lv_has ls 3 [(0, .int (kI i)), (1, .int (kI n))] := lv_sub hl [0, 1] rfl
  obtain ⟨⟨hx, hb, -, -, -⟩, -⟩ := id cx
  refine lv_iload_n hx hb dJ3_checkIndex_8e157_0 rfl (lv_at hl 0 rfl) ?_
  refine ri_if_lt (tgt := 9) hx hb hi dJ3_checkIndex_8e157_1 (by decide) (fun c3 => ?_) (fun c3 => ?_)
  · omega
  · refine lv_iload_n hx hb dJ3_checkIndex_8e157_4 rfl (lv_at hl 0 rfl) ?_
    refine lv_iload_n hx hb dJ3_checkIndex_8e157_5 rfl (lv_at hl 1 rfl) ?_
    refine ri_icmp_lt (tgt := 16) hx hb hi hn dJ3_checkIndex_8e157_6 (by decide) (fun c4 => ?_) (fun c4 => ?_)
    · refine lv_iload_n hx hb dJ3_checkIndex_8e157_16 rfl (lv_at hl 0 rfl) ?_
      exact re_i hx hb hlk hr cx hw (Nat.le_of_ble_eq_true rfl) (Nat.le_of_ble_eq_true rfl) dJ3_checkIndex_8e157_17
    · omega
set_option maxHeartbeats 4000000 in
theorem c_J0_checkIndex (l : Launch) (G : GG) (S : SM) (sz : Nat) (i n : Int) (h : 0 ≤ i ∧ i < n) (hn : rI n) : CtV l yJ0_checkIndex_df160 cJ0_checkIndex_df160 2 (rmD 2 0 0) G S sz [.int (kI i), .int (kI n)] [] [] := by
  refine met_of (Qc := fun A => QcV G A []) (by decide +kernel) (Nat.le_of_ble_eq_true rfl) ?_
  intro p e s m args below meth c A H locs ls cx hw hr hlk hnm hl
  have hl : lv_has ls 2 [(0, .int (kI i)), (1, .int (kI n))] := hl
  obtain ⟨⟨hx, hb, -, -, -⟩, -⟩ := id cx
  refine lv_iload_n hx hb dJ0_checkIndex_df160_0 rfl (lv_at hl 0 rfl) ?_
  refine lv_iload_n hx hb dJ0_checkIndex_df160_1 rfl (lv_at hl 1 rfl) ?_
  have key : ∀ V : Value, (V = .null ∨ ∃ t, V = .ref t) → W p l e (rmD 2 0 0) s m args below meth c H locs 0 0 (MQ below (QcV G A []) args s (rmD 2 0 0).cells (rmD 2 0 0).slots A) (F0 m 5 ls [V, .int (kI n), .int (kI i)]) := by
    intro V hV
    refine rc_I0 (v := i) hw [] (rr_S cx hw (c_J3_checkIndex l G S H.size i n V hV h hn) sv_1059 [] rfl rfl rfl ⟨Nat.le_of_ble_eq_true rfl, Nat.le_of_ble_eq_true rfl⟩ rfl hl.1 rfl (Nat.le_of_ble_eq_true rfl) dJ0_checkIndex_df160_5 ⟨Nat.le_of_ble_eq_true rfl, Nat.le_of_ble_eq_true rfl⟩) rfl rfl (fun H locs hw => ?_)
    refine lv_pop hx hb dJ0_checkIndex_df160_8 rfl ?_
    exact re_v hx hb hlk hr cx hw (Nat.le_of_ble_eq_true rfl) (Nat.le_of_ble_eq_true rfl) dJ0_checkIndex_df160_9
  rcases cx.2.2.2.1.2.2 with hz | ⟨t, hz⟩
  · exact va_gets hx hb hz hw.2.2.1 cx.1.2.2.2.1 (cx.1.2.2.2.2 _ sw_1053) (fun _ h => h) dJ0_checkIndex_df160_2 (key .null (Or.inl rfl))
  · exact va_gets hx hb hz hw.2.2.1 cx.1.2.2.2.1 (cx.1.2.2.2.2 _ sw_1053) (fun _ h => h) dJ0_checkIndex_df160_2 (key (.ref t) (Or.inr ⟨t, rfl⟩))
set_option maxHeartbeats 4000000 in
theorem c_J1_charAt (l : Launch) (G : GG) (S : SM) (sz : Nat) (k : Nat) (i : Int) (hk : k < 7) (h : 0 ≤ i ∧ i < stLen k) : CtI l yJ1_charAt_3b067 cJ1_charAt_3b067 2 .char (rmD 3 0 0) G S sz [.ref (G.2.2.2 k), .int (kI i)] [] (stCh k i) [] := by
  have hle := st_len k hk
  have hl2 := st_len2 k hk
  have hrn : rI (stLen k) := by constructor <;> omega
  have hri : rI i := by constructor <;> omega
  obtain ⟨j, rfl⟩ : ∃ j : Nat, i = (j : Int) := ⟨i.toNat, by omega⟩
  have hj : j < [2, 5, 4, 4, 4, 3, 4].getD k 0 := by omega
  obtain ⟨ht1, ht2⟩ := st_tab k hk j hj
  refine met_of (Qc := fun A => QcI G A (stCh k (j : Int)) []) (by decide +kernel) (Nat.le_of_ble_eq_true rfl) ?_
  intro p e s m args below meth c A H locs ls cx hw hr hlk hnm hl
  have hl : lv_has ls 2 [(0, .ref (G.2.2.2 k)), (1, .int (kI (j : Int)))] := hl
  obtain ⟨⟨hx, hb, -, -, -⟩, -⟩ := id cx
  have hT := (cx.2.2.2.1.1.1 k hk).2.2.2
  refine lv_iload_n hx hb dJ1_charAt_3b067_0 rfl (lv_at hl 1 rfl) ?_
  refine lv_aload_n hx hb dJ1_charAt_3b067_1 rfl (lv_at hl 0 rfl) ?_
  refine va_tlen hx hb hT hw.2.2.1 (v := kI (stLen k)) (by rw [hle]; exact (Int32.ofInt_eq_ofNat).symm) dJ1_charAt_3b067_2 ?_
  refine rc_V0 hw [] (rr_S cx hw (c_J0_checkIndex l G S H.size (j : Int) (stLen k) h hrn) sv_9 [] rfl rfl rfl ⟨Nat.le_of_ble_eq_true rfl, Nat.le_of_ble_eq_true rfl⟩ rfl hl.1 rfl (Nat.le_of_ble_eq_true rfl) dJ1_charAt_3b067_3 ⟨Nat.le_of_ble_eq_true rfl, Nat.le_of_ble_eq_true rfl⟩) rfl rfl (fun H locs hw => ?_)
  refine lv_aload_n hx hb dJ1_charAt_3b067_6 rfl (lv_at hl 0 rfl) ?_
  refine lv_iload_n hx hb dJ1_charAt_3b067_7 rfl (lv_at hl 1 rfl) ?_
  have hc0 : (kI (j : Int)).toNatClampNeg = j := by rw [kI_clamp hri (by omega)]; rfl
  refine va_tb hx hb hT hw.2.2.1 (i := kI (j : Int)) (kI_in (by omega) (by omega) (by omega)) (v := .int ((stT.getD k []).getD j 0)) (by rw [hc0]; rfl) dJ1_charAt_3b067_8 ?_
  refine lv_sipush (v := 255) hx hb dJ1_charAt_3b067_9 (by decide) ?_
  refine lv_iand hx hb dJ1_charAt_3b067_12 ?_
  refine lv_i2c (v := kI (stCh k (j : Int))) hx hb dJ1_charAt_3b067_13 ht1 ?_
  exact re_n ht2 hx hb hlk hr cx hw (Nat.le_of_ble_eq_true rfl) (Nat.le_of_ble_eq_true rfl) dJ1_charAt_3b067_14
set_option maxHeartbeats 4000000 in
theorem c_J0_isLatin1 (l : Launch) (G : GG) (S : SM) (sz : Nat) (k : Nat) (hk : k < 7) : CtI l yJ0_isLatin1_aae02 cJ0_isLatin1_aae02 1 .boolean (rmD 1 0 0) G S sz [.ref (G.2.2.1 k)] [] 1 [] := by
  refine met_of (Qc := fun A => QcI G A 1 []) (by decide +kernel) (Nat.le_of_ble_eq_true rfl) ?_
  intro p e s m args below meth c A H locs ls cx hw hr hlk hnm hl
  have hl : lv_has ls 1 [(0, .ref (G.2.2.1 k))] := hl
  obtain ⟨⟨hx, hb, -, -, -⟩, -⟩ := id cx
  refine va_gets hx hb cx.2.2.2.1.2.1 hw.2.2.1 cx.1.2.2.2.1 (cx.1.2.2.2.2 _ sw_38) (fun _ h => h) dJ0_isLatin1_aae02_0 ?_
  refine lv_if_eq (tgt := 17) hx hb dJ0_isLatin1_aae02_3 (by decide) (fun c1 => absurd c1 (by decide)) (fun c1 => ?_)
  refine lv_aload_n hx hb dJ0_isLatin1_aae02_6 rfl (lv_at hl 0 rfl) ?_
  refine vk_getf hx hb (cx.2.2.2.1.1.1 k hk).2.1 hw.2.2.1 cx.1.2.2.2.1 (cx.1.2.2.2.2 _ sw_15) (fun _ h => h) dJ0_isLatin1_aae02_7 ?_
  refine lv_if_ne (tgt := 17) hx hb dJ0_isLatin1_aae02_10 (by decide) (fun c2 => absurd rfl c2) (fun c2 => ?_)
  refine ri_iconst hx hb dJ0_isLatin1_aae02_13 ?_
  refine lv_goto (tgt := 18) hx hb dJ0_isLatin1_aae02_14 (by decide) ?_
  exact re_z (by decide) hx hb hlk hr cx hw (Nat.le_of_ble_eq_true rfl) (Nat.le_of_ble_eq_true rfl) dJ0_isLatin1_aae02_18
set_option maxHeartbeats 4000000 in
theorem c_J0_coder (l : Launch) (G : GG) (S : SM) (sz : Nat) (k : Nat) (hk : k < 7) : CtI l yJ0_coder_7d493 cJ0_coder_7d493 1 .byte (rmD 1 0 0) G S sz [.ref (G.2.2.1 k)] [] 0 [] := by
  refine met_of (Qc := fun A => QcI G A 0 []) (by decide +kernel) (Nat.le_of_ble_eq_true rfl) ?_
  intro p e s m args below meth c A H locs ls cx hw hr hlk hnm hl
  have hl : lv_has ls 1 [(0, .ref (G.2.2.1 k))] := hl
  obtain ⟨⟨hx, hb, -, -, -⟩, -⟩ := id cx
  refine va_gets hx hb cx.2.2.2.1.2.1 hw.2.2.1 cx.1.2.2.2.1 (cx.1.2.2.2.2 _ sw_38) (fun _ h => h) dJ0_coder_7d493_0 ?_
  refine lv_if_eq (tgt := 13) hx hb dJ0_coder_7d493_3 (by decide) (fun c1 => absurd c1 (by decide)) (fun c1 => ?_)
  refine lv_aload_n hx hb dJ0_coder_7d493_6 rfl (lv_at hl 0 rfl) ?_
  refine vk_getf hx hb (cx.2.2.2.1.1.1 k hk).2.1 hw.2.2.1 cx.1.2.2.2.1 (cx.1.2.2.2.2 _ sw_15) (fun _ h => h) dJ0_coder_7d493_7 ?_
  refine lv_goto (tgt := 14) hx hb dJ0_coder_7d493_10 (by decide) ?_
  exact re_n (v := 0) (by decide +kernel) hx hb hlk hr cx hw (Nat.le_of_ble_eq_true rfl) (Nat.le_of_ble_eq_true rfl) dJ0_coder_7d493_14
set_option maxHeartbeats 4000000 in
theorem c_J0_length (l : Launch) (G : GG) (S : SM) (sz : Nat) (k : Nat) (hk : k < 7) : CtI l yJ0_length_8abf5 cJ0_length_8abf5 1 .int (rmD 2 0 0) G S sz [.ref (G.2.2.1 k)] [] (stLen k) [] := by
  have hle := st_len k hk
  have hl2 := st_len2 k hk
  refine met_of (Qc := fun A => QcI G A (stLen k) []) (by decide +kernel) (Nat.le_of_ble_eq_true rfl) ?_
  intro p e s m args below meth c A H locs ls cx hw hr hlk hnm hl
  have hl : lv_has ls 1 [(0, .ref (G.2.2.1 k))] := hl
  obtain ⟨⟨hx, hb, -, -, -⟩, -⟩ := id cx
  have hT := (cx.2.2.2.1.1.1 k hk).2.2.2
  refine lv_aload_n hx hb dJ0_length_8abf5_0 rfl (lv_at hl 0 rfl) ?_
  refine vk_getf hx hb (cx.2.2.2.1.1.1 k hk).2.2.1 hw.2.2.1 cx.1.2.2.2.1 (cx.1.2.2.2.2 _ sw_9) (fun _ h => h) dJ0_length_8abf5_1 ?_
  refine va_tlen hx hb hT hw.2.2.1 (v := kI (stLen k)) (by rw [hle]; exact (Int32.ofInt_eq_ofNat).symm) dJ0_length_8abf5_4 ?_
  refine lv_aload_n hx hb dJ0_length_8abf5_5 rfl (lv_at hl 0 rfl) ?_
  refine rc_I0 (v := 0) hw [] (rr_VX cx hw (c_J0_coder l G S H.size k hk) sv_335 (sx_recv cx hw hk) ⟨Nat.le_of_ble_eq_true rfl, Nat.le_of_ble_eq_true rfl⟩ rfl hl.1 rfl (Nat.le_of_ble_eq_true rfl) dJ0_length_8abf5_6 ⟨Nat.le_of_ble_eq_true rfl, Nat.le_of_ble_eq_true rfl⟩) rfl rfl (fun H locs hw => ?_)
  refine lv_ishr hx hb dJ0_length_8abf5_9 ?_
  have e : kI (stLen k) >>> (kI 0 &&& 31) = kI (stLen k) := by
    rw [hle]
    have : ∀ q : Nat, q < 10 → kI (q : Int) >>> (kI 0 &&& 31) = kI (q : Int) := by decide +kernel
    exact this _ hl2
  rw [e]
  exact re_i hx hb hlk hr cx hw (Nat.le_of_ble_eq_true rfl) (Nat.le_of_ble_eq_true rfl) dJ0_length_8abf5_10
set_option maxHeartbeats 4000000 in
theorem c_J0_charAt (l : Launch) (G : GG) (S : SM) (sz : Nat) (k : Nat) (i : Int) (hk : k < 7) (h : 0 ≤ i ∧ i < stLen k) : CtI l yJ0_charAt_5068e cJ0_charAt_5068e 2 .char (rmD 4 0 0) G S sz [.ref (G.2.2.1 k), .int (kI i)] [] (stCh k i) [] := by
  have hle := st_len k hk
  have hl2 := st_len2 k hk
  have ht2 : narrow .char (.int (kI (stCh k i))) = .int (kI (stCh k i)) := (st_tab k hk i.toNat (by omega)).2
  refine met_of (Qc := fun A => QcI G A (stCh k i) []) (by decide +kernel) (Nat.le_of_ble_eq_true rfl) ?_
  intro p e s m args below meth c A H locs ls cx hw hr hlk hnm hl
  have hl : lv_has ls 2 [(0, .ref (G.2.2.1 k)), (1, .int (kI i))] := hl
  obtain ⟨⟨hx, hb, -, -, -⟩, -⟩ := id cx
  refine lv_aload_n hx hb dJ0_charAt_5068e_0 rfl (lv_at hl 0 rfl) ?_
  refine rc_I0 (v := 1) hw [] (rr_VX cx hw (c_J0_isLatin1 l G S H.size k hk) sv_492 (sx_recv cx hw hk) ⟨Nat.le_of_ble_eq_true rfl, Nat.le_of_ble_eq_true rfl⟩ rfl hl.1 rfl (Nat.le_of_ble_eq_true rfl) dJ0_charAt_5068e_1 ⟨Nat.le_of_ble_eq_true rfl, Nat.le_of_ble_eq_true rfl⟩) rfl rfl (fun H locs hw => ?_)
  refine ri_if_eq (tgt := 16) hx hb ⟨by decide, by decide⟩ dJ0_charAt_5068e_4 (by decide) (fun c1 => absurd c1 (by decide)) (fun c1 => ?_)
  refine lv_aload_n hx hb dJ0_charAt_5068e_7 rfl (lv_at hl 0 rfl) ?_
  refine vk_getf hx hb (cx.2.2.2.1.1.1 k hk).2.2.1 hw.2.2.1 cx.1.2.2.2.1 (cx.1.2.2.2.2 _ sw_9) (fun _ h => h) dJ0_charAt_5068e_8 ?_
  refine lv_iload_n hx hb dJ0_charAt_5068e_11 rfl (lv_at hl 1 rfl) ?_
  refine rc_I0 (v := stCh k i) hw [] (rr_S cx hw (c_J1_charAt l G S H.size k i hk h) sv_495 [] rfl rfl rfl ⟨Nat.le_of_ble_eq_true rfl, Nat.le_of_ble_eq_true rfl⟩ rfl hl.1 rfl (Nat.le_of_ble_eq_true rfl) dJ0_charAt_5068e_12 ⟨Nat.le_of_ble_eq_true rfl, Nat.le_of_ble_eq_true rfl⟩) rfl rfl (fun H locs hw => ?_)
  exact re_n ht2 hx hb hlk hr cx hw (Nat.le_of_ble_eq_true rfl) (Nat.le_of_ble_eq_true rfl) dJ0_charAt_5068e_15
