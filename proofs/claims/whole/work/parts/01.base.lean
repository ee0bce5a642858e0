/-! numbers of the program as plain numbers -/
def kI (x : Int) : Int32 := Int32.ofInt x
def kL (x : Int) : Int64 := Int64.ofInt x
abbrev rI (x : Int) : Prop := -2147483648 ≤ x ∧ x ≤ 2147483647
abbrev rL (x : Int) : Prop := -9223372036854775808 ≤ x ∧ x ≤ 9223372036854775807
def gd {α : Type} (c : Prop) [Decidable c] (x : Option α) : Option α := if c then x else none
theorem gd_some {α : Type} {c : Prop} [Decidable c] {x : Option α} {r : α} (h : gd c x = some r) : c ∧ x = some r := by
  unfold gd at h
  by_cases hc : c
  · rw [if_pos hc] at h; exact ⟨hc, h⟩
  · rw [if_neg hc] at h; cases h
theorem gd_t {α : Type} {c : Prop} [Decidable c] {x : Option α} (hc : c) : gd c x = x := if_pos hc
theorem it_pos {α : Type} {c : Prop} [Decidable c] {x y z : α} (hc : c) (h : (if c then x else y) = z) : x = z := (if_pos hc).symm.trans h
theorem it_neg {α : Type} {c : Prop} [Decidable c] {x y z : α} (hc : ¬ c) (h : (if c then x else y) = z) : y = z := (if_neg hc).symm.trans h
theorem bd_some {α β : Type} {x : Option α} {f : α → Option β} {r : β} (h : x.bind f = some r) : ∃ a, x = some a ∧ f a = some r := Option.bind_eq_some_iff.mp h
theorem so_inj {α : Type} {x y : α} (h : some x = some y) : y = x := (Option.some.inj h).symm
def uP {α : Type} (f : Int → α) (i : Int) (v : α) : Int → α := fun j => if j = i then v else f j
def cP {α : Type} (f g : Int → α) (sp dp n : Int) : Int → α := fun k => if dp ≤ k ∧ k < dp + n then f (sp + (k - dp)) else g k
def aI (f : Int → Int) : Nat → Int32 := fun j => kI (f (j : Int))
def aL (f : Int → Int) : Nat → Int64 := fun j => kL (f (j : Int))
def aD {α : Type} (f : Int → α) : Nat → α := fun j => f (j : Int)
theorem kI_toInt {x : Int} (h : rI x) : (kI x).toInt = x := by
  unfold kI
  rw [Int32.toInt_ofInt]
  have hz : (Int32.size : Int) = 4294967296 := rfl
  apply Int.bmod_eq_of_le <;> omega
theorem kL_toInt {x : Int} (h : rL x) : (kL x).toInt = x := by
  unfold kL
  rw [Int64.toInt_ofInt]
  have hz : (Int64.size : Int) = 18446744073709551616 := rfl
  apply Int.bmod_eq_of_le <;> omega
theorem kI_add (a b : Int) : kI a + kI b = kI (a + b) := (Int32.ofInt_add a b).symm
theorem kI_sub (a b : Int) : kI a - kI b = kI (a - b) := (Int32.ofInt_sub a b).symm
theorem kI_mul (a b : Int) : kI a * kI b = kI (a * b) := (Int32.ofInt_mul a b).symm
theorem kI_neg (a : Int) : - kI a = kI (-a) := (Int32.ofInt_neg a).symm
theorem kL_add (a b : Int) : kL a + kL b = kL (a + b) := (Int64.ofInt_add a b).symm
theorem kL_sub (a b : Int) : kL a - kL b = kL (a - b) := (Int64.ofInt_sub a b).symm
theorem kL_mul (a b : Int) : kL a * kL b = kL (a * b) := (Int64.ofInt_mul a b).symm
theorem kL_neg (a : Int) : - kL a = kL (-a) := (Int64.ofInt_neg a).symm
theorem kI_of (x : Int32) : kI x.toInt = x := Int32.ofInt_toInt x
theorem kL_of (x : Int64) : kL x.toInt = x := Int64.ofInt_toInt x
theorem kI_range (x : Int32) : rI x.toInt := by
  have h1 := x.toInt_lt; have h2 := x.le_toInt; constructor <;> omega
theorem kL_range (x : Int64) : rL x.toInt := by
  have h1 := x.toInt_lt; have h2 := x.le_toInt; constructor <;> omega
theorem kI_lt {a b : Int} (ha : rI a) (hb : rI b) : kI a < kI b ↔ a < b := by
  rw [Int32.lt_iff_toInt_lt, kI_toInt ha, kI_toInt hb]
theorem kI_le {a b : Int} (ha : rI a) (hb : rI b) : kI a ≤ kI b ↔ a ≤ b := by
  rw [Int32.le_iff_toInt_le, kI_toInt ha, kI_toInt hb]
theorem kI_eq {a b : Int} (ha : rI a) (hb : rI b) : kI a = kI b ↔ a = b :=
  ⟨fun h => by have := congrArg Int32.toInt h; rwa [kI_toInt ha, kI_toInt hb] at this, fun h => by rw [h]⟩
theorem kL_lt {a b : Int} (ha : rL a) (hb : rL b) : kL a < kL b ↔ a < b := by
  rw [Int64.lt_iff_toInt_lt, kL_toInt ha, kL_toInt hb]
theorem kL_le {a b : Int} (ha : rL a) (hb : rL b) : kL a ≤ kL b ↔ a ≤ b := by
  rw [Int64.le_iff_toInt_le, kL_toInt ha, kL_toInt hb]
theorem kL_eq {a b : Int} (ha : rL a) (hb : rL b) : kL a = kL b ↔ a = b :=
  ⟨fun h => by have := congrArg Int64.toInt h; rwa [kL_toInt ha, kL_toInt hb] at this, fun h => by rw [h]⟩
theorem kI_L {a : Int} (ha : rI a) : (kI a).toInt64 = kL a := by
  apply Int64.toInt_inj.mp
  rw [Int32.toInt_toInt64, kI_toInt ha, kL_toInt (by constructor <;> omega)]
theorem kL_I (a : Int) : (kL a).toInt32 = kI a := by
  unfold kL kI
  exact Int64.toInt32_ofInt
theorem kI_div {a b : Int} (ha : rI a) (h0 : 0 ≤ a) (hb : rI b) (h1 : 0 < b) : kI a / kI b = kI (a / b) := by
  apply Int32.toInt_inj.mp
  have hq0 : 0 ≤ a / b := Int.ediv_nonneg h0 (by omega)
  have hq1 : a / b ≤ a := Int.ediv_le_self b h0
  rw [Int32.toInt_div, kI_toInt ha, kI_toInt hb, kI_toInt (by constructor <;> omega), Int.tdiv_eq_ediv_of_nonneg h0]
  apply Int.bmod_eq_of_le <;> omega
theorem kL_div {a b : Int} (ha : rL a) (h0 : 0 ≤ a) (hb : rL b) (h1 : 0 < b) : kL a / kL b = kL (a / b) := by
  apply Int64.toInt_inj.mp
  have hq0 : 0 ≤ a / b := Int.ediv_nonneg h0 (by omega)
  have hq1 : a / b ≤ a := Int.ediv_le_self b h0
  rw [Int64.toInt_div, kL_toInt ha, kL_toInt hb, kL_toInt (by constructor <;> omega), Int.tdiv_eq_ediv_of_nonneg h0]
  apply Int.bmod_eq_of_le <;> omega
theorem kI_rem {a b : Int} (ha : rI a) (h0 : 0 ≤ a) (hb : rI b) (h1 : 0 < b) : kI a - kI a / kI b * kI b = kI (a % b) := by
  rw [kI_div ha h0 hb h1, kI_mul, kI_sub]
  congr 1
  have := Int.mul_ediv_add_emod a b
  rw [Int.mul_comm] at this
  omega
theorem kL_rem {a b : Int} (ha : rL a) (h0 : 0 ≤ a) (hb : rL b) (h1 : 0 < b) : kL a - kL a / kL b * kL b = kL (a % b) := by
  rw [kL_div ha h0 hb h1, kL_mul, kL_sub]
  congr 1
  have := Int.mul_ediv_add_emod a b
  rw [Int.mul_comm] at this
  omega
theorem kI_ne0 {b : Int} (hb : rI b) (h1 : 0 < b) : ¬ kI b = 0 := by
  intro h
  have : kI b = kI 0 := h
  rw [kI_eq hb (by constructor <;> omega)] at this
  omega
theorem kL_ne0 {b : Int} (hb : rL b) (h1 : 0 < b) : ¬ kL b = 0 := by
  intro h
  have : kL b = kL 0 := h
  rw [kL_eq hb (by constructor <;> omega)] at this
  omega
theorem kI_clamp {i : Int} (h : rI i) (h0 : 0 ≤ i) : (kI i).toNatClampNeg = i.toNat := by
  have : (kI i).toNatClampNeg = (kI i).toInt.toNat := rfl
  rw [this, kI_toInt h]
theorem kI_in {i : Int} {n : Nat} (hn : n < 2147483648) (h0 : 0 ≤ i) (h1 : i < n) : vp_in (kI i) n := by
  have hr : rI i := by constructor <;> omega
  unfold vp_in
  rw [kI_clamp hr h0]
  rintro (h | h)
  · have : kI i < kI 0 := h
    rw [kI_lt hr (by constructor <;> omega)] at this
    omega
  · omega
theorem aI_at {f : Int → Int} {i : Int} (hr : rI i) (h0 : 0 ≤ i) : aI f (kI i).toNatClampNeg = kI (f i) := by
  rw [kI_clamp hr h0]; unfold aI; rw [Int.toNat_of_nonneg h0]
theorem aL_at {f : Int → Int} {i : Int} (hr : rI i) (h0 : 0 ≤ i) : aL f (kI i).toNatClampNeg = kL (f i) := by
  rw [kI_clamp hr h0]; unfold aL; rw [Int.toNat_of_nonneg h0]
theorem aD_at {α : Type} {f : Int → α} {i : Int} (hr : rI i) (h0 : 0 ≤ i) : aD f (kI i).toNatClampNeg = f i := by
  rw [kI_clamp hr h0]; unfold aD; rw [Int.toNat_of_nonneg h0]
theorem aI_up {f : Int → Int} {i v : Int} (hr : rI i) (h0 : 0 ≤ i) : upd (aI f) (kI i).toNatClampNeg (kI v) = aI (uP f i v) := by
  rw [kI_clamp hr h0]
  funext j
  unfold upd aI uP
  by_cases h : j = i.toNat
  · rw [if_pos h, if_pos (by omega)]
  · rw [if_neg h, if_neg (by omega)]
theorem aL_up {f : Int → Int} {i v : Int} (hr : rI i) (h0 : 0 ≤ i) : vp_updL (aL f) (kI i).toNatClampNeg (kL v) = aL (uP f i v) := by
  rw [kI_clamp hr h0]
  funext j
  unfold vp_updL aL uP
  by_cases h : j = i.toNat
  · rw [if_pos h, if_pos (by omega)]
  · rw [if_neg h, if_neg (by omega)]
theorem aD_up {α : Type} {f : Int → α} {i : Int} {v : α} (hr : rI i) (h0 : 0 ≤ i) : vf_upd (aD f) (kI i).toNatClampNeg v = aD (uP f i v) := by
  rw [kI_clamp hr h0]
  funext j
  unfold vf_upd aD uP
  by_cases h : j = i.toNat
  · rw [if_pos h, if_pos (by omega)]
  · rw [if_neg h, if_neg (by omega)]
theorem aI_cp {f g : Int → Int} {sp dp n : Int} (h1 : rI sp) (h10 : 0 ≤ sp) (h2 : rI dp) (h20 : 0 ≤ dp) (h3 : rI n) (h30 : 0 ≤ n) : va_cpy (aI f) (aI g) (kI sp).toNatClampNeg (kI dp).toNatClampNeg (kI n).toNatClampNeg = aI (cP f g sp dp n) := by
  rw [kI_clamp h1 h10, kI_clamp h2 h20, kI_clamp h3 h30]
  funext j
  unfold va_cpy aI cP
  by_cases h : dp.toNat ≤ j ∧ j < dp.toNat + n.toNat
  · rw [if_pos h, if_pos (by omega)]
    congr 2
    omega
  · rw [if_neg h, if_neg (by omega)]
def iabs (a : Int) : Int := if 0 < a then a else -a
def iAnd (a b : Int) : Int := (kI a &&& kI b).toInt
def iOr (a b : Int) : Int := (kI a ||| kI b).toInt
def lOr (a b : Int) : Int := (kL a ||| kL b).toInt
abbrev n64 (r : UInt64) : Prop := r &&& 0x7fffffffffffffff ≤ 0x7ff0000000000000
abbrev n32 (r : UInt32) : Prop := r &&& 0x7fffffff ≤ 0x7f800000
def dcV (x y : UInt64) (op : CmpOp) : Int := (Op.cmpValue (FP.dcmp x y) op).toInt
def fcV (x y : UInt32) (op : CmpOp) : Int := (Op.cmpValue (FP.fcmp x y) op).toInt
def d2L (x : UInt64) : Int := (FP.d2l x).toInt
def f2L (x : UInt32) : Int := (FP.f2l x).toInt
/-! the seven words, by their bytes; samples by their places -/
def stB : List (List Int) := [[97, 116], [108, 101, 97, 115, 116], [109, 111, 115, 116], [99, 111, 115, 116], [103, 111, 111, 100], [98, 97, 100], [111, 112, 101, 110]]
def stLen (k : Nat) : Int := ((stB.getD k []).length : Int)
def stCh (k : Nat) (i : Int) : Int := (stB.getD k []).getD i.toNat 0
abbrev SM : Type := (Nat → Bool) × (Nat → Nat) × (Nat → Nat) × (Nat → Int) × (Nat → Int) × (Nat → Int → Int) × (Nat → Int → Int)
def smSize (S : SM) (a : Nat) : Int := S.2.2.2.1 a
def smTotal (S : SM) (a : Nat) : Int := S.2.2.2.2.1 a
def smScore (S : SM) (a : Nat) : Int → Int := S.2.2.2.2.2.1 a
def smCases (S : SM) (a : Nat) : Int → Int := S.2.2.2.2.2.2 a
def dB (x : UInt64) : Int := x.toInt64.toInt
def fB (x : UInt32) : Int := x.toInt32.toInt
