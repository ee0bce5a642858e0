set_option maxHeartbeats 4000000 in
set_option maxRecDepth 100000 in
theorem w_X12_isStep_b16 {p : Program} {l : Launch} {e : Env} {s : State} {m : MethodId} {args : Array Value} {below : List Frame} {meth : Method} {c : Code} {A : Nat → Prop} {G : GG} {S : SM} (cx : CX p s m args c cX12_isStep RX12 1 G S A) (hlk : meth.locks = false) (hr : meth.sig.returnType = some .boolean) (N : Nat) (x0 : Int) (r : Int) : m_X12_isStep_b16 N x0 = some r → ∀ (H : Heap) (locs : List Loc) (ls : Array Slot), HP G A s.heap H locs [] → lv_has ls 1 [] → W p l e (rmD 1 0 0) s m args below meth c H locs 0 0 (MQ below (QcI G A r []) args s (rmD 1 0 0).cells (rmD 1 0 0).slots A) (F0 m 16 ls []) := by
  intro  h H locs ls hw hl
  rw [m_X12_isStep_b16] at h
  obtain ⟨⟨hx, hb, -, -, -⟩, -⟩ := id cx
  refine ri_iconst hx hb dX12_isStep_16 ?_
  obtain rfl := so_inj h
  exact re_z (Or.inl rfl)  hx hb hlk hr cx hw (Nat.le_of_ble_eq_true rfl) (Nat.le_of_ble_eq_true rfl) dX12_isStep_17
set_option maxHeartbeats 4000000 in
set_option maxRecDepth 100000 in
theorem c_X12_isStep (l : Launch) (G : GG) (S : SM) (sz : Nat) (N : Nat)  (x0 : Int) (r : Int) (h : m_X12_isStep N x0 = some r) : CtI l yX12_isStep cX12_isStep 1 .boolean (rmD 1 0 0) G S sz [.int (kI x0)] [] r [] := by
  refine met_I (by decide +kernel) (Nat.le_of_ble_eq_true rfl) ?_
  intro p e s m args below meth c A H locs ls cx hw hr hlk hnm hl
  have hl : lv_has ls 1 [(0, .int (kI x0))] := hl
  rw [m_X12_isStep] at h
  obtain ⟨⟨hx, hb, -, -, -⟩, -⟩ := id cx
  refine lv_iload_n hx hb dX12_isStep_0 rfl (lv_at hl 0 rfl) ?_
  refine ri_bipush hx hb dX12_isStep_1 rfl ?_
  obtain ⟨g1, h⟩ := gd_some h
  refine ri_icmp_lt (tgt := 16) hx hb g1 ⟨by decide, by decide⟩ dX12_isStep_3 (by decide) (fun c2 => ?_) (fun c2 => ?_)
  · have h := it_pos c2 h
    exact w_X12_isStep_b16 cx hlk hr N x0 r  h _ _ _ hw (lv_sub hl [] rfl)
  · have h := it_neg c2 h
    refine lv_iload_n hx hb dX12_isStep_6 rfl (lv_at hl 0 rfl) ?_
    refine ri_bipush hx hb dX12_isStep_7 rfl ?_
    refine ri_icmp_gt (tgt := 16) hx hb g1 ⟨by decide, by decide⟩ dX12_isStep_9 (by decide) (fun c3 => ?_) (fun c3 => ?_)
    · have h := it_pos c3 h
      exact w_X12_isStep_b16 cx hlk hr N x0 r  h _ _ _ hw (lv_sub hl [] rfl)
    · have h := it_neg c3 h
      refine ri_iconst hx hb dX12_isStep_12 ?_
      refine lv_goto (tgt := 17) hx hb dX12_isStep_13 (by decide) ?_
      obtain rfl := so_inj h
      exact re_z (Or.inr rfl)  hx hb hlk hr cx hw (Nat.le_of_ble_eq_true rfl) (Nat.le_of_ble_eq_true rfl) dX12_isStep_17
