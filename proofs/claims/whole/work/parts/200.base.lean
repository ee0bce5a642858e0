/-! THE PURE LAYER: walking a model, sums -/
theorem gd_ok {α : Type} {c : Prop} [Decidable c] {x r : Option α} (hc : c) (h : x = r) : gd c x = r := (gd_t hc).trans h
theorem ip_ok {α : Type} {c : Prop} [Decidable c] {x y z : α} (hc : c) (h : x = z) : (if c then x else y) = z := (if_pos hc).trans h
theorem in_ok {α : Type} {c : Prop} [Decidable c] {x y z : α} (hc : ¬ c) (h : y = z) : (if c then x else y) = z := (if_neg hc).trans h
theorem bd_ok {α β : Type} {x : Option α} {f : α → Option β} {a : α} {r : Option β} (hx : x = some a) (h : f a = r) : x.bind f = r := by rw [hx]; exact h
theorem up_ind {P : Int → Prop} (z : P 0) (s : ∀ i, 0 ≤ i → P i → P (i + 1)) (i : Int) (h : 0 ≤ i) : P i := by
  obtain ⟨n, rfl⟩ := Int.eq_ofNat_of_zero_le h
  induction n with
  | zero => exact z
  | succ n ih =>
    have := s (n : Int) (by omega) (ih (by omega))
    rwa [← Int.natCast_succ] at this
theorem uP_s {α : Type} (f : Int → α) (i : Int) (v : α) : uP f i v i = v := if_pos rfl
theorem uP_o {α : Type} (f : Int → α) {i j : Int} (v : α) (h : ¬ j = i) : uP f i v j = f j := if_neg h
theorem cP_i {α : Type} {f g : Int → α} {sp dp n k : Int} (h : dp ≤ k ∧ k < dp + n) : cP f g sp dp n k = f (sp + (k - dp)) := if_pos h
theorem cP_o {α : Type} {f g : Int → α} {sp dp n k : Int} (h : ¬ (dp ≤ k ∧ k < dp + n)) : cP f g sp dp n k = g k := if_neg h
def sm (f : Int → Int) : Nat → Int
  | 0 => 0
  | n + 1 => sm f n + f (n : Int)
def sI (f : Int → Int) (i : Int) : Int := sm f i.toNat
theorem sI_z (f : Int → Int) : sI f 0 = 0 := rfl
theorem sI_s (f : Int → Int) {i : Int} (h : 0 ≤ i) : sI f (i + 1) = sI f i + f i := by
  unfold sI
  have e : (i + 1).toNat = i.toNat + 1 := by omega
  rw [e]
  show sm f i.toNat + f (i.toNat : Int) = _
  rw [Int.toNat_of_nonneg h]
theorem sm_congr {f g : Int → Int} (n : Nat) (h : ∀ j : Int, 0 ≤ j → j < (n : Int) → f j = g j) : sm f n = sm g n := by
  induction n with
  | zero => rfl
  | succ n ih =>
    show sm f n + f n = sm g n + g n
    rw [ih (fun j h0 h1 => h j h0 (by omega)), h n (by omega) (by omega)]
theorem sI_congr {f g : Int → Int} {i : Int} (h : ∀ j, 0 ≤ j → j < i → f j = g j) : sI f i = sI g i := by
  unfold sI
  exact sm_congr _ (fun j h0 h1 => h j h0 (by omega))
theorem sI_ab {f : Int → Int} {K n : Int} (hf : ∀ j, 0 ≤ j → j < n → 0 ≤ f j ∧ f j ≤ K) {a : Int} (ha : 0 ≤ a) : ∀ b, a ≤ b → b ≤ n → 0 ≤ sI f b - sI f a ∧ sI f b - sI f a ≤ K * (b - a) := by
  intro b hab hbn
  obtain ⟨k, hk⟩ := Int.le.dest hab
  induction k generalizing b with
  | zero =>
    have : b = a := by omega
    subst this
    have e : b - b = 0 := by omega
    rw [e, Int.mul_zero]
    omega
  | succ k ih =>
    have h1 := ih (b - 1) (by omega) (by omega) (by omega)
    have h2 := hf (b - 1) (by omega) (by omega)
    have e := sI_s f (i := b - 1) (by omega)
    have e2 : b - 1 + 1 = b := by omega
    rw [e2] at e
    have e3 : K * (b - a) = K * (b - 1 - a) + K := by
      have : b - a = (b - 1 - a) + 1 := by omega
      rw [this, Int.mul_add, Int.mul_one]
    omega
theorem sI_add (f g : Int → Int) {i : Int} (h : 0 ≤ i) : sI (fun j => f j + g j) i = sI f i + sI g i := by
  refine up_ind (P := fun i => sI (fun j => f j + g j) i = sI f i + sI g i) rfl (fun i h ih => ?_) i h
  rw [sI_s _ h, sI_s _ h, sI_s _ h, ih]
  omega
theorem so_bd {α β : Type} (a : α) (f : α → Option β) : (some a).bind f = f a := rfl
