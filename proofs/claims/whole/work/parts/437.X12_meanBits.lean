set_option maxHeartbeats 4000000 in
set_option maxRecDepth 100000 in
theorem c_X12_meanBits (l : Launch) (G : GG) (S : SM) (sz : Nat) (N : Nat)  (x0 : Int) (x2 : Int) (r : Int) (h : m_X12_meanBits N x0 x2 = some r) : CtL l yX12_meanBits cX12_meanBits 3 (rmD 2 0 0) G S sz [.long (kL x0), .int (kI x2)] [] r [] := by
  refine met_L (by decide +kernel) (Nat.le_of_ble_eq_true rfl) ?_
  intro p e s m args below meth c A H locs ls cx hw hr hlk hnm hl
  have hl : lv_has ls 3 [(0, .long (kL x0)), (2, .int (kI x2))] := hl
  rw [m_X12_meanBits] at h
  obtain ⟨⟨hx, hb, -, -, -⟩, -⟩ := id cx
  refine lv_iload_n hx hb dX12_meanBits_0 rfl (lv_at hl 1 rfl) ?_
  obtain ⟨g1, h⟩ := gd_some h
  refine ri_if_ne (tgt := 10) hx hb g1 dX12_meanBits_1 (by decide) (fun c2 => ?_) (fun c2 => ?_)
  · have h := it_pos c2 h
    refine lv_ldc2 (v := kL (-9223372036854775808)) hx hb cx.1.2.2.2.1 (cx.1.2.2.2.2 _ kc_X12_225) dX12_meanBits_4 ?_
    refine lv_goto (tgt := 19) hx hb dX12_meanBits_7 (by decide) ?_
    obtain rfl := so_inj h
    exact re_l hx hb hlk hr cx hw (Nat.le_of_ble_eq_true rfl) (Nat.le_of_ble_eq_true rfl) dX12_meanBits_19
  · have h := it_neg c2 h
    refine lv_lload_n hx hb dX12_meanBits_10 rfl (lv_at hl 0 rfl) ?_
    refine lv_iload_n hx hb dX12_meanBits_11 rfl (lv_at hl 1 rfl) ?_
    refine ri_i2l hx hb g1 dX12_meanBits_12 ?_
    obtain ⟨r3, h3, h⟩ := bd_some h
    refine rc_D0 (v := r3) hw [] (rr_S cx hw (c_X5_quotient l G S H.size N x0 x2 _ h3) mv_X12_227 [] rfl rfl rfl ⟨Nat.le_of_ble_eq_true rfl, Nat.le_of_ble_eq_true rfl⟩ rfl hl.1 rfl (Nat.le_of_ble_eq_true rfl) dX12_meanBits_13 ⟨Nat.le_of_ble_eq_true rfl, Nat.le_of_ble_eq_true rfl⟩) rfl rfl (fun H locs hw => ?_)
    obtain ⟨r4, h4, h⟩ := bd_some h
    refine rc_L0 (v := r4) hw [] (rr_S cx hw (c_X5_doubleBits l G S H.size N r3 _ h4) mv_X12_233 [] rfl rfl rfl ⟨Nat.le_of_ble_eq_true rfl, Nat.le_of_ble_eq_true rfl⟩ rfl hl.1 rfl (Nat.le_of_ble_eq_true rfl) dX12_meanBits_16 ⟨Nat.le_of_ble_eq_true rfl, Nat.le_of_ble_eq_true rfl⟩) rfl rfl (fun H locs hw => ?_)
    obtain rfl := so_inj h
    exact re_l hx hb hlk hr cx hw (Nat.le_of_ble_eq_true rfl) (Nat.le_of_ble_eq_true rfl) dX12_meanBits_19
