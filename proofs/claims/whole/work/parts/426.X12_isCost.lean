set_option maxHeartbeats 4000000 in
set_option maxRecDepth 100000 in
theorem c_X12_isCost (l : Launch) (G : GG) (S : SM) (sz : Nat) (N : Nat)  (x0 : Int) (r : Int) (h : m_X12_isCost N x0 = some r) : CtI l yX12_isCost cX12_isCost 1 .boolean (rmD 1 0 0) G S sz [.int (kI x0)] [] r [] := by
  refine met_I (by decide +kernel) (Nat.le_of_ble_eq_true rfl) ?_
  intro p e s m args below meth c A H locs ls cx hw hr hlk hnm hl
  have hl : lv_has ls 1 [(0, .int (kI x0))] := hl
  rw [m_X12_isCost] at h
  obtain ⟨⟨hx, hb, -, -, -⟩, -⟩ := id cx
  refine lv_iload_n hx hb dX12_isCost_0 rfl (lv_at hl 0 rfl) ?_
  obtain ⟨g1, h⟩ := gd_some h
  refine ri_if_lt (tgt := 15) hx hb g1 dX12_isCost_1 (by decide) (fun c2 => ?_) (fun c2 => ?_)
  · have h := it_pos c2 h
    refine ri_iconst hx hb dX12_isCost_15 ?_
    obtain rfl := so_inj h
    exact re_z (Or.inl rfl)  hx hb hlk hr cx hw (Nat.le_of_ble_eq_true rfl) (Nat.le_of_ble_eq_true rfl) dX12_isCost_16
  · have h := it_neg c2 h
    refine lv_iload_n hx hb dX12_isCost_4 rfl (lv_at hl 0 rfl) ?_
    refine ri_sipush hx hb dX12_isCost_5 rfl ?_
    refine ri_icmp_gt (tgt := 15) hx hb g1 ⟨by decide, by decide⟩ dX12_isCost_8 (by decide) (fun c3 => ?_) (fun c3 => ?_)
    · have h := it_pos c3 h
      refine ri_iconst hx hb dX12_isCost_15 ?_
      obtain rfl := so_inj h
      exact re_z (Or.inl rfl)  hx hb hlk hr cx hw (Nat.le_of_ble_eq_true rfl) (Nat.le_of_ble_eq_true rfl) dX12_isCost_16
    · have h := it_neg c3 h
      refine ri_iconst hx hb dX12_isCost_11 ?_
      refine lv_goto (tgt := 16) hx hb dX12_isCost_12 (by decide) ?_
      obtain rfl := so_inj h
      exact re_z (Or.inr rfl)  hx hb hlk hr cx hw (Nat.le_of_ble_eq_true rfl) (Nat.le_of_ble_eq_true rfl) dX12_isCost_16
