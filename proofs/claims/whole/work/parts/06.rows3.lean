theorem wb_tb (n : Nat) : (lN n).toBitVec = BitVec.ofNat 64 n := rfl
theorem wb_inj {a b : Int64} (h : a.toBitVec = b.toBitVec) : a = b := Int64.toBitVec_inj.mp h
theorem wb_tn {n : Nat} (h : n < 2 ^ 64) : (lN n).toBitVec.toNat = n := by rw [wb_tb, BitVec.toNat_ofNat, Nat.mod_eq_of_lt h]
theorem wb_of (x : Int64) : ∃ n, n < 2 ^ 64 ∧ x = lN n := ⟨x.toBitVec.toNat, x.toBitVec.isLt, wb_inj (by rw [wb_tb]; simp)⟩
theorem wb_of32 (x : Int32) : ∃ n, n < 2 ^ 32 ∧ x = nI n := ⟨x.toBitVec.toNat, x.toBitVec.isLt, Int32.toBitVec_inj.mp (by show _ = BitVec.ofNat 32 _; simp)⟩
theorem wb_c : ∀ k, k < 64 → ((nI k).toInt64 &&& 63) = lN k := by decide +kernel
theorem wb_cu : ∀ k, k < 64 → ((nI k).toInt64.toUInt64 &&& Int64.toUInt64 63) = UInt64.ofNat k := by decide +kernel
theorem wb_sm : ∀ k, k < 64 → (BitVec.ofNat 64 k).smod 64 = BitVec.ofNat 64 k := by decide +kernel
theorem wb_pw {a b : Nat} (h : a ≤ b) : 2 ^ b = 2 ^ a * 2 ^ (b - a) := by rw [← Nat.pow_add]; congr 1; omega
theorem wb_lt2 {a b : Nat} (h : a < b) : 2 ^ a < 2 ^ b := Nat.pow_lt_pow_right (by decide) h
theorem wb_mod (n : Nat) : lN n = lN (n % 2 ^ 64) := wb_inj (by rw [wb_tb, wb_tb]; apply BitVec.eq_of_toNat_eq; rw [BitVec.toNat_ofNat, BitVec.toNat_ofNat, Nat.mod_mod])
theorem wb_shr {n k : Nat} (hn : n < 2 ^ 64) (hk : k < 64) : ((lN n).toUInt64 >>> ((nI k).toInt64.toUInt64 &&& Int64.toUInt64 63)).toInt64 = lN (n / 2 ^ k) := by
  rw [wb_cu k hk]
  apply wb_inj
  apply BitVec.eq_of_toNat_eq
  show ((lN n).toUInt64 >>> UInt64.ofNat k).toNat = (BitVec.ofNat 64 _).toNat
  have h1 : (UInt64.ofNat k).toNat = k := by
    show (BitVec.ofNat 64 k).toNat = k
    rw [BitVec.toNat_ofNat, Nat.mod_eq_of_lt (by omega)]
  have h2 : (lN n).toUInt64.toNat = n := wb_tn hn
  rw [UInt64.toNat_shiftRight, h1, h2, Nat.mod_eq_of_lt hk, Nat.shiftRight_eq_div_pow, BitVec.toNat_ofNat, Nat.mod_eq_of_lt (Nat.lt_of_le_of_lt (Nat.div_le_self _ _) hn)]
theorem wb_shl (n : Nat) {k : Nat} (hk : k < 64) : lN n <<< ((nI k).toInt64 &&& 63) = lN (n * 2 ^ k) := by
  rw [wb_c k hk]
  apply wb_inj
  rw [Int64.toBitVec_shiftLeft, wb_tb, wb_tb, wb_tb, wb_sm k hk]
  apply BitVec.eq_of_toNat_eq
  rw [BitVec.shiftLeft_eq', BitVec.toNat_shiftLeft, BitVec.toNat_ofNat, BitVec.toNat_ofNat, BitVec.toNat_ofNat, Nat.mod_eq_of_lt (show k < 2 ^ 64 by omega), Nat.shiftLeft_eq, Nat.mul_mod, Nat.mod_mod, ← Nat.mul_mod]
theorem wb_and {a b : Nat} (ha : a < 2 ^ 64) (hb : b < 2 ^ 64) : lN a &&& lN b = lN (a &&& b) := by
  apply wb_inj
  rw [Int64.toBitVec_and, wb_tb, wb_tb, wb_tb]
  apply BitVec.eq_of_toNat_eq
  rw [BitVec.toNat_and, BitVec.toNat_ofNat, BitVec.toNat_ofNat, BitVec.toNat_ofNat, Nat.mod_eq_of_lt ha, Nat.mod_eq_of_lt hb, Nat.mod_eq_of_lt (Nat.and_lt_two_pow _ hb)]
theorem wb_or {a b : Nat} (ha : a < 2 ^ 64) (hb : b < 2 ^ 64) : lN a ||| lN b = lN (a ||| b) := by
  apply wb_inj
  rw [Int64.toBitVec_or, wb_tb, wb_tb, wb_tb]
  apply BitVec.eq_of_toNat_eq
  rw [BitVec.toNat_or, BitVec.toNat_ofNat, BitVec.toNat_ofNat, BitVec.toNat_ofNat, Nat.mod_eq_of_lt ha, Nat.mod_eq_of_lt hb, Nat.mod_eq_of_lt (Nat.or_lt_two_pow ha hb)]
theorem wb_mask {n k : Nat} (hn : n < 2 ^ 64) (hk : k < 64) : lN n &&& lN (2 ^ k - 1) = lN (n % 2 ^ k) := by
  rw [wb_and hn (by have := wb_lt2 hk; omega), Nat.and_two_pow_sub_one_eq_mod]
theorem wb_a1 {n : Nat} (hn : n < 2 ^ 64) : lN n &&& 1 = lN (n % 2) := wb_mask (k := 1) hn (by decide)
theorem kL_lN (a : Int) : kL a = lN (a % 18446744073709551616).toNat := by
  apply wb_inj
  show BitVec.ofInt 64 a = BitVec.ofNat 64 _
  apply BitVec.eq_of_toNat_eq
  rw [BitVec.toNat_ofInt, BitVec.toNat_ofNat]
  have : ((2 ^ 64 : Nat) : Int) = 18446744073709551616 := by decide
  rw [this]
  omega
theorem lN_kL (n : Nat) : lN n = kL (n : Int) := (Int64.ofInt_eq_ofNat).symm
theorem kI_nI (a : Int) : kI a = nI (a % 4294967296).toNat := by
  apply Int32.toBitVec_inj.mp
  show BitVec.ofInt 32 a = BitVec.ofNat 32 _
  apply BitVec.eq_of_toNat_eq
  rw [BitVec.toNat_ofInt, BitVec.toNat_ofNat]
  have : ((2 ^ 32 : Nat) : Int) = 4294967296 := by decide
  rw [this]
  omega
theorem nI_kI (n : Nat) : nI n = kI (n : Int) := (Int32.ofInt_eq_ofNat).symm
theorem kL_ushr (a : Int) {b : Int} {q : Int} (h0 : 0 ≤ b ∧ b < 64) (hq : (2 : Int) ^ b.toNat = q) : ((kL a).toUInt64 >>> ((kI b).toInt64.toUInt64 &&& Int64.toUInt64 63)).toInt64 = kL (a % 18446744073709551616 / q) := by
  have e : kI b = nI b.toNat := by rw [nI_kI, Int.toNat_of_nonneg h0.1]
  rw [e, kL_lN a, wb_shr (by omega) (by omega), lN_kL]
  congr 1
  rw [← hq, Int.natCast_ediv, Int.toNat_of_nonneg (by omega), Int.natCast_pow]
  rfl
theorem kL_shl (a : Int) {b : Int} {q : Int} (h0 : 0 ≤ b ∧ b < 64) (hq : (2 : Int) ^ b.toNat = q) : kL a <<< ((kI b).toInt64 &&& 63) = kL (a * q) := by
  have e : kI b = nI b.toNat := by rw [nI_kI, Int.toNat_of_nonneg h0.1]
  have e2 : kL (a * q) = kL (((a % 18446744073709551616).toNat * 2 ^ b.toNat : Nat) : Int) := by
    rw [kL_lN, kL_lN (_ : Int)]
    congr 2
    rw [Int.natCast_mul, Int.natCast_pow, Int.toNat_of_nonneg (by omega), ← hq]
    show _ = _ % _ * (2 : Int) ^ b.toNat % _
    conv => lhs; rw [Int.mul_emod]
    conv => rhs; rw [Int.mul_emod, Int.emod_emod_of_dvd _ (Int.dvd_refl _)]
  rw [e, e2, kL_lN a, wb_shl _ (by omega), lN_kL]
theorem kL_mask (a : Int) : kL a &&& kL 4294967295 = kL (a % 4294967296) := by
  have e : kL 4294967295 = lN (2 ^ 32 - 1) := rfl
  rw [e, kL_lN a, wb_mask (by omega) (by decide), lN_kL]
  congr 1
  rw [Int.natCast_emod, Int.toNat_of_nonneg (by omega)]
  show a % 18446744073709551616 % 4294967296 = _
  omega
theorem kL_shr {a : Int} (g : rL a) {b : Int} {q : Int} (h0 : 0 ≤ b ∧ b < 64) (hq : (2 : Int) ^ b.toNat = q) : kL a >>> ((kI b).toInt64 &&& 63) = kL (a / q) := by
  have e : kI b = nI b.toNat := by rw [nI_kI, Int.toNat_of_nonneg h0.1]
  have hk : b.toNat < 64 := by omega
  have hq1 : 0 < q := by rw [← hq]; exact Int.pow_pos (by decide)
  rw [e, wb_c _ hk]
  apply Int64.toInt_inj.mp
  have hr : rL (a / q) := by
    constructor
    · have h1 : a / q * q ≤ a := Int.ediv_mul_le a (by omega)
      have h2 : (a / q + 1) * q > a := Int.lt_ediv_add_one_mul_self a hq1
      by_cases hn : 0 ≤ a
      · have := Int.ediv_nonneg hn (by omega : 0 ≤ q); omega
      · have h3 : a ≤ a / q := by
          apply Int.le_ediv_of_mul_le hq1
          have : a * q ≤ a * 1 := Int.mul_le_mul_of_nonpos_left (by omega) (by omega)
          omega
        omega
    · by_cases hn : 0 ≤ a
      · have := Int.ediv_le_self q hn; omega
      · have : a / q < 0 := Int.ediv_neg_of_neg_of_pos (by omega) hq1
        omega
  rw [kL_toInt hr]
  show (BitVec.sshiftRight' _ _).toInt = _
  rw [BitVec.sshiftRight']
  have e3 : ((lN b.toNat).toBitVec.smod 64).toNat = b.toNat := by rw [wb_tb, wb_sm _ hk, BitVec.toNat_ofNat, Nat.mod_eq_of_lt (by omega)]
  have e4 : ((lN b.toNat).toBitVec.smod (64#64)).toNat = b.toNat := e3
  simp only [Int64.toBitVec] at e4
  first
    | rw [BitVec.toInt_sshiftRight, e4, Int.shiftRight_eq_div_pow, ← hq]; rw [show (kL a).toBitVec.toInt = a from kL_toInt g]; rfl
    | (rw [BitVec.toInt_sshiftRight]; simp only [Int.shiftRight_eq_div_pow]; rw [show (kL a).toBitVec.toInt = a from kL_toInt g, ← hq]; congr 1; rw [e3]; rfl)
theorem kI_ushr (a : Int) {b : Int} {q : Int} (h0 : 0 ≤ b ∧ b < 32) (hq : (2 : Int) ^ b.toNat = q) : ((kI a).toUInt32 >>> ((kI b).toUInt32 &&& Int32.toUInt32 31)).toInt32 = kI (a % 4294967296 / q) := by
  have e : kI b = nI b.toNat := by rw [nI_kI, Int.toNat_of_nonneg h0.1]
  have hs : ∀ n, n < 32 → (((nI n).toUInt32 &&& Int32.toUInt32 31).toBitVec % 32).toNat = n := by decide +kernel
  have hk : b.toNat < 32 := by omega
  rw [kI_nI (a % 4294967296 / q)]
  apply Int32.toBitVec_inj.mp
  apply BitVec.eq_of_toNat_eq
  rw [e, pk_ushr (kI a) (nI b.toNat) b.toNat (hs _ hk), pk_tn (by omega), kI_nI a, pk_tn (by omega)]
  apply Int.ofNat_inj.mp
  rw [Int.natCast_ediv, Int.toNat_of_nonneg (by omega), Int.natCast_pow]
  have hq1 : 0 < q := by rw [← hq]; exact Int.pow_pos (by decide)
  have h1 : 0 ≤ a % 4294967296 / q := Int.ediv_nonneg (by omega) (by omega)
  have h2 : a % 4294967296 / q ≤ a % 4294967296 := Int.ediv_le_self q (by omega)
  rw [Int.toNat_of_nonneg (by omega), Int.emod_eq_of_lt h1 (by omega), ← hq]
  rfl
theorem kI_mask (a : Int) (k : Nat) {q z : Int} (hk : k ≤ 31) (hq : (2 : Int) ^ k = q) (hz : (kI z).toBitVec.toNat = 2 ^ k - 1) : kI a &&& kI z = kI (a % q) := by
  rw [pk_and (kI a) k hz, nI_kI]
  have e : (kI a).toBitVec.toNat = (a % 4294967296).toNat := by rw [kI_nI, pk_tn (by omega)]
  rw [e]
  congr 1
  rw [Int.natCast_emod, Int.toNat_of_nonneg (by omega), Int.natCast_pow]
  show _ % (2 : Int) ^ k = _
  rw [hq]
  have hd : q ∣ 4294967296 := by
    rw [← hq]
    have : (4294967296 : Int) = (2 : Int) ^ k * 2 ^ (32 - k) := by
      rw [← Int.pow_add]
      have : k + (32 - k) = 32 := by omega
      rw [this]; decide
    exact ⟨_, this⟩
  exact Int.emod_emod_of_dvd a hd

section
variable {p : Program} {l : Launch} {e : Env} {R : Room} {s : State} {m : MethodId} {args : Array Value} {below : List Frame} {meth : Method} {c : Code} {H : Heap} {locs : List Loc} {cells slots : Nat} {Q : State → Prop} {cc : ByteArray} {pc : Nat} {ls : Array Slot} {rest : List Value}
theorem ri_lushr (hx : p.tables.exec = Jvm.exec) (hb : c.code = cc) {a b q : Int} (g : 0 ≤ b ∧ b < 64) (hq : (2 : Int) ^ b.toNat = q) (d : decode cc pc = .ok (.lushr, 1)) (k : W p l e R s m args below meth c H locs cells slots Q (F0 m (pc + 1) ls (.long (kL (a % 18446744073709551616 / q)) :: rest))) : W p l e R s m args below meth c H locs cells slots Q (F0 m (pc) ls (.int (kI b) :: .long (kL a) :: rest)) := lv_lushr hx hb d (kL_ushr a g hq) k
theorem ri_lshl (hx : p.tables.exec = Jvm.exec) (hb : c.code = cc) {a b q : Int} (g : 0 ≤ b ∧ b < 64) (hq : (2 : Int) ^ b.toNat = q) (d : decode cc pc = .ok (.lshl, 1)) (k : W p l e R s m args below meth c H locs cells slots Q (F0 m (pc + 1) ls (.long (kL (a * q)) :: rest))) : W p l e R s m args below meth c H locs cells slots Q (F0 m (pc) ls (.int (kI b) :: .long (kL a) :: rest)) := lv_lshl hx hb d (kL_shl a g hq) k
theorem ri_lshr (hx : p.tables.exec = Jvm.exec) (hb : c.code = cc) {a b q : Int} (ga : rL a) (g : 0 ≤ b ∧ b < 64) (hq : (2 : Int) ^ b.toNat = q) (d : decode cc pc = .ok (.lshr, 1)) (k : W p l e R s m args below meth c H locs cells slots Q (F0 m (pc + 1) ls (.long (kL (a / q)) :: rest))) : W p l e R s m args below meth c H locs cells slots Q (F0 m (pc) ls (.int (kI b) :: .long (kL a) :: rest)) := lv_lshr hx hb d (kL_shr ga g hq) k
theorem ri_land (hx : p.tables.exec = Jvm.exec) (hb : c.code = cc) {a : Int} (d : decode cc pc = .ok (.land, 1)) (k : W p l e R s m args below meth c H locs cells slots Q (F0 m (pc + 1) ls (.long (kL (a % 4294967296)) :: rest))) : W p l e R s m args below meth c H locs cells slots Q (F0 m (pc) ls (.long (kL 4294967295) :: .long (kL a) :: rest)) := lv_land hx hb d (by rw [kL_mask]; exact k)
theorem ri_lor (hx : p.tables.exec = Jvm.exec) (hb : c.code = cc) {a b : Int} (d : decode cc pc = .ok (.lor, 1)) (k : W p l e R s m args below meth c H locs cells slots Q (F0 m (pc + 1) ls (.long (kL (lOr a b)) :: rest))) : W p l e R s m args below meth c H locs cells slots Q (F0 m (pc) ls (.long (kL b) :: .long (kL a) :: rest)) := lv_lor hx hb d (by rw [← kL_of (kL a ||| kL b)]; exact k)
theorem ri_iand (hx : p.tables.exec = Jvm.exec) (hb : c.code = cc) {a b : Int} (d : decode cc pc = .ok (.iand, 1)) (k : W p l e R s m args below meth c H locs cells slots Q (F0 m (pc + 1) ls (.int (kI (iAnd a b)) :: rest))) : W p l e R s m args below meth c H locs cells slots Q (F0 m (pc) ls (.int (kI b) :: .int (kI a) :: rest)) := lv_iand hx hb d (by rw [← kI_of (kI a &&& kI b)]; exact k)
theorem ri_ior (hx : p.tables.exec = Jvm.exec) (hb : c.code = cc) {a b : Int} (d : decode cc pc = .ok (.ior, 1)) (k : W p l e R s m args below meth c H locs cells slots Q (F0 m (pc + 1) ls (.int (kI (iOr a b)) :: rest))) : W p l e R s m args below meth c H locs cells slots Q (F0 m (pc) ls (.int (kI b) :: .int (kI a) :: rest)) := lv_ior hx hb d (by rw [← kI_of (kI a ||| kI b)]; exact k)
theorem ri_iandm (hx : p.tables.exec = Jvm.exec) (hb : c.code = cc) {a z q : Int} (n : Nat) (hn : n ≤ 31) (hq : (2 : Int) ^ n = q) (hz : (kI z).toBitVec.toNat = 2 ^ n - 1) (d : decode cc pc = .ok (.iand, 1)) (k : W p l e R s m args below meth c H locs cells slots Q (F0 m (pc + 1) ls (.int (kI (a % q)) :: rest))) : W p l e R s m args below meth c H locs cells slots Q (F0 m (pc) ls (.int (kI z) :: .int (kI a) :: rest)) := lv_iand hx hb d (by rw [kI_mask a n hn hq hz]; exact k)
theorem ri_iushr (hx : p.tables.exec = Jvm.exec) (hb : c.code = cc) {a b q : Int} (g : 0 ≤ b ∧ b < 32) (hq : (2 : Int) ^ b.toNat = q) (d : decode cc pc = .ok (.iushr, 1)) (k : W p l e R s m args below meth c H locs cells slots Q (F0 m (pc + 1) ls (.int (kI (a % 4294967296 / q)) :: rest))) : W p l e R s m args below meth c H locs cells slots Q (F0 m (pc) ls (.int (kI b) :: .int (kI a) :: rest)) := lv_iushr hx hb d (kI_ushr a g hq) k
theorem ri_dcmp (hx : p.tables.exec = Jvm.exec) (hb : c.code = cc) {x y : UInt64} {op : CmpOp} (d : decode cc pc = .ok (.dcmp op, 1)) (k : W p l e R s m args below meth c H locs cells slots Q (F0 m (pc + 1) ls (.int (kI (dcV x y op)) :: rest))) : W p l e R s m args below meth c H locs cells slots Q (F0 m (pc) ls (.double y :: .double x :: rest)) := lv_dcmp hx hb d (by rw [← kI_of (Op.cmpValue (FP.dcmp x y) op)]; exact k)
theorem ri_fcmp (hx : p.tables.exec = Jvm.exec) (hb : c.code = cc) {x y : UInt32} {op : CmpOp} (d : decode cc pc = .ok (.fcmp op, 1)) (k : W p l e R s m args below meth c H locs cells slots Q (F0 m (pc + 1) ls (.int (kI (fcV x y op)) :: rest))) : W p l e R s m args below meth c H locs cells slots Q (F0 m (pc) ls (.float y :: .float x :: rest)) := lv_fcmp hx hb d (by rw [← kI_of (Op.cmpValue (FP.fcmp x y) op)]; exact k)
theorem dcV_r (x y : UInt64) (op : CmpOp) : rI (dcV x y op) := kI_range _
theorem fcV_r (x y : UInt32) (op : CmpOp) : rI (fcV x y op) := kI_range _
theorem ri_d2l (hx : p.tables.exec = Jvm.exec) (hb : c.code = cc) {x : UInt64} (d : decode cc pc = .ok (.d2l, 1)) (k : W p l e R s m args below meth c H locs cells slots Q (F0 m (pc + 1) ls (.long (kL (d2L x)) :: rest))) : W p l e R s m args below meth c H locs cells slots Q (F0 m (pc) ls (.double x :: rest)) := lv_d2l hx hb d (by rw [← kL_of (FP.d2l x)]; exact k)
theorem ri_f2l (hx : p.tables.exec = Jvm.exec) (hb : c.code = cc) {x : UInt32} (d : decode cc pc = .ok (.f2l, 1)) (k : W p l e R s m args below meth c H locs cells slots Q (F0 m (pc + 1) ls (.long (kL (f2L x)) :: rest))) : W p l e R s m args below meth c H locs cells slots Q (F0 m (pc) ls (.float x :: rest)) := lv_f2l hx hb d (by rw [← kL_of (FP.f2l x)]; exact k)
end
