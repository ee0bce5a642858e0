theorem cAO_12 {v : Nat} (j : Nat) (hj : j < 12) : (uP (uP (uP (uP (uP (uP (uP (uP (uP (uP (uP (uP (fun _ => none) 0 (some v)) 1 (some v)) 2 (some v)) 3 (some v)) 4 (some v)) 5 (some v)) 6 (some v)) 7 (some v)) 8 (some v)) 9 (some v)) 10 (some v)) 11 (some v) : Int → Option Nat) (j : Int) = some v := by
  have h8 : j = 0 ∨ j = 1 ∨ j = 2 ∨ j = 3 ∨ j = 4 ∨ j = 5 ∨ j = 6 ∨ j = 7 ∨ j = 8 ∨ j = 9 ∨ j = 10 ∨ j = 11 := by omega
  rcases h8 with rfl | rfl | rfl | rfl | rfl | rfl | rfl | rfl | rfl | rfl | rfl | rfl <;> rfl
