def cpO (f : Int → Int) (n0 : Nat) (x : Int) : Int → Int := if x = (n0 : Int) then f else cP f (fun _ => 0) 0 0 (min (n0 : Int) x)
def wL (x : Int) : Int := (x + 9223372036854775808) % 18446744073709551616 - 9223372036854775808
theorem kL_w (x : Int) : kL (wL x) = kL x := by
  have e : wL x = x - 18446744073709551616 * ((x + 9223372036854775808) / 18446744073709551616) := by unfold wL; omega
  have z : kL 18446744073709551616 = 0 := by decide +kernel
  rw [e, ← kL_sub, ← kL_mul, z]
  simp
def m_X0_init (N : Nat) : Option (Int × (Int → Int) × (Int → Int) × (Int → Int) × (Int → Int)) :=
  some (0, (fun _ => 0), (fun _ => 0), (fun _ => 0), (fun _ => 0))
def m_X0_dropOldest (N : Nat) (t_size : Int) (t_kind : Int → Int) (t_first : Int → Int) (t_second : Int → Int) (t_third : Int → Int) : Option (Int × (Int → Int) × (Int → Int) × (Int → Int) × (Int → Int)) :=
  gd ((0 ≤ (1 : Int) ∧ 0 ≤ (0 : Int) ∧ 0 ≤ (9 : Int)) ∧ (1 : Int) + (9 : Int) ≤ 10 ∧ (0 : Int) + (9 : Int) ≤ 10) (some (9, cP t_kind t_kind 1 0 9, cP t_first t_first 1 0 9, cP t_second t_second 1 0 9, cP t_third t_third 1 0 9))
def m_X0_append_b13 (N : Nat) (x1 : Int) (x2 : Int) (x3 : Int) (x4 : Int) (t_size : Int) (t_kind : Int → Int) (t_first : Int → Int) (t_second : Int → Int) (t_third : Int → Int) : Option (Int × (Int → Int) × (Int → Int) × (Int → Int) × (Int → Int)) :=
  gd ((0 : Int) ≤ t_size ∧ t_size < 10) (some (t_size + 1, uP t_kind t_size x1, uP t_first t_size x2, uP t_second t_size x3, uP t_third t_size x4))
def m_X0_append (N : Nat) (t_size : Int) (t_kind : Int → Int) (t_first : Int → Int) (t_second : Int → Int) (t_third : Int → Int) (x1 : Int) (x2 : Int) (x3 : Int) (x4 : Int) : Option (Int × (Int → Int) × (Int → Int) × (Int → Int) × (Int → Int)) :=
  gd (rI t_size) (if t_size < 10 then (m_X0_append_b13 N x1 x2 x3 x4 t_size t_kind t_first t_second t_third) else ((m_X0_dropOldest N t_size t_kind t_first t_second t_third).bind fun r3 => m_X0_append_b13 N x1 x2 x3 x4 r3.1 r3.2.1 r3.2.2.1 r3.2.2.2.1 r3.2.2.2.2))
def m_X1_init (N : Nat) (x1 : Int) : Option (Int × (Int → Int)) :=
  gd (rI x1) (gd ((0 : Int) ≤ (max x1 0) ∧ (max x1 0) ≤ 2000) (some (0, (fun _ => 0))))
def m_X1_takes (N : Nat) (t_size : Int) (t_store_n : Nat) (x1 : Int) : Option (Int) :=
  gd (rI x1) (gd (rI ((t_store_n : Int) - t_size)) (if ((t_store_n : Int) - t_size) < x1 then (some 0) else (some 1)))
def m_X1_put (N : Nat) (t_store_n : Nat) (t_size : Int) (t_store : Int → Int) (x1 : Int) : Option (Int × (Int → Int)) :=
  (m_X1_takes N t_size t_store_n 1).bind fun r1 => gd (rI r1) (if r1 = 0 then (some (t_size, t_store)) else (gd ((0 : Int) ≤ t_size ∧ t_size < (t_store_n : Int)) (some (t_size + 1, uP t_store t_size (x1 % 256)))))
def m_X1_putWord (N : Nat) (t_store_n : Nat) (t_size : Int) (t_store : Int → Int) (x1 : Int) : Option (Int × (Int → Int)) :=
  (m_X1_put N t_store_n t_size t_store (x1 % 4294967296 / 16777216)).bind fun r1 => (m_X1_put N t_store_n r1.1 r1.2 (x1 % 4294967296 / 65536)).bind fun r2 => (m_X1_put N t_store_n r2.1 r2.2 (x1 % 4294967296 / 256)).bind fun r3 => (m_X1_put N t_store_n r3.1 r3.2 x1).bind fun r4 => some (r4.1, r4.2)
def m_X1_putNumber_b24 (N : Nat) (t_store_n : Nat) (x1 : Int) : Nat → Int → (Int → Int) → Int → Option (Int × (Int → Int))
  | 0, _, _, _ => none
  | n + 1, t_size, t_store, y2 =>
    gd (rI y2) (if y2 ≤ 0 then (some (t_size, t_store)) else (gd ((0 ≤ x1 ∧ rI x1) ∧ (0 : Int) < y2 ∧ rI y2) (gd ((0 ≤ (x1 / y2) ∧ rI (x1 / y2)) ∧ (0 : Int) < 10 ∧ rI 10) ((m_X1_put N t_store_n t_size t_store (48 + ((x1 / y2) % 10))).bind fun r5 => gd ((0 ≤ y2 ∧ rI y2) ∧ (0 : Int) < 10 ∧ rI 10) (m_X1_putNumber_b24 N t_store_n x1 n r5.1 r5.2 (y2 / 10))))))
def m_X1_putNumber_b2 (N : Nat) (t_store_n : Nat) (x1 : Int) (t_size : Int) (t_store : Int → Int) : Nat → Int → Option (Int × (Int → Int))
  | 0, _ => none
  | n + 1, y2 =>
    gd (rI y2) (if 100000000 < y2 then (m_X1_putNumber_b24 N t_store_n x1 N t_size t_store y2) else (gd ((0 ≤ x1 ∧ rI x1) ∧ (0 : Int) < y2 ∧ rI y2) (gd (rI (x1 / y2)) (if (x1 / y2) < 10 then (m_X1_putNumber_b24 N t_store_n x1 N t_size t_store y2) else (m_X1_putNumber_b2 N t_store_n x1 t_size t_store n (y2 * 10))))))
def m_X1_putNumber (N : Nat) (t_store_n : Nat) (t_size : Int) (t_store : Int → Int) (x1 : Int) : Option (Int × (Int → Int)) :=
  m_X1_putNumber_b2 N t_store_n x1 t_size t_store N 1
def m_X2_init (N : Nat) : Option (Int × Int × (Int → Int) × (Int → Int) × (Int → Int) × (Int → Int) × (Int → Int)) :=
  some (0, 0, (fun _ => 0), (fun _ => 0), (fun _ => 0), (fun _ => 0), (fun _ => 0))
def m_X2_has_b16 (N : Nat) (t_size : Int) (x1 : Int)  : Option (Int) :=
  some 0
def m_X2_has (N : Nat) (t_size : Int) (x1 : Int) : Option (Int) :=
  gd (rI x1) (if x1 < 0 then (m_X2_has_b16 N t_size x1 ) else (gd (rI t_size) (if t_size ≤ x1 then (m_X2_has_b16 N t_size x1 ) else (some 1))))
def m_X2_hasRoom (N : Nat) (t_size : Int) : Option (Int) :=
  gd (rI t_size) (if 40 ≤ t_size then (some 0) else (some 1))
def m_X2_append (N : Nat) (t_size : Int) (t_score : Int → Int) (t_choice : Int → Int) (t_advice : Int → Int) (t_result : Int → Int) (t_learntBy : Int → Int) (x1 : Int) (x2 : Int) (x3 : Int) : Option (Int × (Int → Int) × (Int → Int) × (Int → Int) × (Int → Int) × (Int → Int)) :=
  (m_X2_hasRoom N t_size).bind fun r1 => gd (rI r1) (if r1 = 0 then (some (t_size, t_score, t_choice, t_advice, t_result, t_learntBy)) else (gd ((0 : Int) ≤ t_size ∧ t_size < 40) (some (t_size + 1, uP t_score t_size x1, uP t_choice t_size x2, uP t_advice t_size x3, uP t_result t_size (-1), uP t_learntBy t_size 0))))
def m_X2_dropLast (N : Nat) (t_size : Int) : Option (Int) :=
  gd (rI t_size) (if t_size ≤ 0 then (some t_size) else (some (t_size - 1)))
def m_X2_forget (N : Nat) (t_size : Int) (t_result : Int → Int) (x1 : Int) : Option ((Int → Int)) :=
  (m_X2_has N t_size x1).bind fun r1 => gd (rI r1) (if r1 = 0 then (some t_result) else (gd ((0 : Int) ≤ x1 ∧ x1 < 40) (some (uP t_result x1 (-1)))))
def m_X2_isPending (N : Nat) (t_result : Int → Int) (t_learntBy : Int → Int) (x1 : Int) : Option (Int) :=
  gd ((0 : Int) ≤ x1 ∧ x1 < 40) (gd (rI (t_result x1)) (if (t_result x1) = (-1) then (some 0) else (gd (rI (t_learntBy x1)) (if (t_learntBy x1) = 0 then (some 1) else (some 0)))))
def m_X2_isOverride_b99 (N : Nat) (t_choice : Int → Int) (t_advice : Int → Int) (t_result : Int → Int) (t_learntBy : Int → Int) (x1 : Int) (x2 : Int)  : Option (Int) :=
  some 0
def m_X2_isOverride (N : Nat) (t_choice : Int → Int) (t_advice : Int → Int) (t_result : Int → Int) (t_learntBy : Int → Int) (x1 : Int) (x2 : Int) : Option (Int) :=
  gd (rI x2) (if x2 = 0 then (gd ((0 : Int) ≤ x1 ∧ x1 < 40) (gd (rI (t_choice x1)) (gd (rI (t_advice x1)) (if (t_choice x1) ≤ (t_advice x1) then (some 0) else (some 1))))) else if x2 = 1 then (gd ((0 : Int) ≤ x1 ∧ x1 < 40) (gd (rI (t_choice x1)) (gd (rI (t_advice x1)) (if (t_advice x1) ≤ (t_choice x1) then (some 0) else (some 1))))) else if x2 = 2 then (gd ((0 : Int) ≤ x1 ∧ x1 < 40) (gd (rI (t_choice x1)) (gd (rI (t_advice x1)) (if (t_choice x1) ≤ (t_advice x1) then (m_X2_isOverride_b99 N t_choice t_advice t_result t_learntBy x1 x2 ) else (gd (rI (t_result x1)) (if (t_result x1) = 1 then (some 1) else (m_X2_isOverride_b99 N t_choice t_advice t_result t_learntBy x1 x2 ))))))) else ((m_X2_isPending N t_result t_learntBy x1).bind fun r20 => gd (r20 = 0 ∨ r20 = 1) (some r20)))
def m_X2_markPending_b38 (N : Nat) (t_size : Int) (t_result : Int → Int) (t_learns : Int) (k12 : (Int → Int) → Int → Option (Int × Int × (Int → Int))) (t_learntBy : Int → Int) (y1 : Int) : Option (Int × Int × (Int → Int)) :=
  k12 t_learntBy (y1 + 1)
def m_X2_markPending_b12 (N : Nat) (t_size : Int) (t_result : Int → Int) (t_learns : Int) : Nat → (Int → Int) → Int → Option (Int × Int × (Int → Int))
  | 0, _, _ => none
  | n + 1, t_learntBy, y1 =>
    gd (rI y1) (gd (rI t_size) (if t_size ≤ y1 then (some (t_learns, t_learns, t_learntBy)) else ((m_X2_isPending N t_result t_learntBy y1).bind fun r4 => gd (rI r4) (if r4 = 0 then (m_X2_markPending_b38 N t_size t_result t_learns (m_X2_markPending_b12 N t_size t_result t_learns n) t_learntBy y1) else (gd ((0 : Int) ≤ y1 ∧ y1 < 40) (m_X2_markPending_b38 N t_size t_result t_learns (m_X2_markPending_b12 N t_size t_result t_learns n) (uP t_learntBy y1 t_learns) y1))))))
def m_X2_markPending (N : Nat) (t_size : Int) (t_result : Int → Int) (t_learns : Int) (t_learntBy : Int → Int) : Option (Int × Int × (Int → Int)) :=
  m_X2_markPending_b12 N t_size t_result (t_learns + 1) N t_learntBy 0
def m_X2_unmark_b27 (N : Nat) (t_size : Int) (x1 : Int) (k2 : (Int → Int) → Int → Option ((Int → Int))) (t_learntBy : Int → Int) (y2 : Int) : Option ((Int → Int)) :=
  k2 t_learntBy (y2 + 1)
def m_X2_unmark_b2 (N : Nat) (t_size : Int) (x1 : Int) : Nat → (Int → Int) → Int → Option ((Int → Int))
  | 0, _, _ => none
  | n + 1, t_learntBy, y2 =>
    gd (rI y2) (gd (rI t_size) (if t_size ≤ y2 then (some t_learntBy) else (gd ((0 : Int) ≤ y2 ∧ y2 < 40) (gd (rI (t_learntBy y2)) (gd (rI x1) (if (t_learntBy y2) = x1 then (m_X2_unmark_b27 N t_size x1 (m_X2_unmark_b2 N t_size x1 n) (uP t_learntBy y2 0) y2) else (m_X2_unmark_b27 N t_size x1 (m_X2_unmark_b2 N t_size x1 n) t_learntBy y2)))))))
def m_X2_unmark (N : Nat) (t_size : Int) (t_learntBy : Int → Int) (x1 : Int) : Option ((Int → Int)) :=
  m_X2_unmark_b2 N t_size x1 N t_learntBy 0
def m_X2_learntIn_b25 (N : Nat) (t_size : Int) (t_learntBy : Int → Int) (x1 : Int) (k4 : Int → Int → Option (Int)) (y2 : Int) (y3 : Int) : Option (Int) :=
  k4 y2 (y3 + 1)
def m_X2_learntIn_b4 (N : Nat) (t_size : Int) (t_learntBy : Int → Int) (x1 : Int) : Nat → Int → Int → Option (Int)
  | 0, _, _ => none
  | n + 1, y2, y3 =>
    gd (rI y3) (gd (rI t_size) (if t_size ≤ y3 then (some y2) else (gd ((0 : Int) ≤ y3 ∧ y3 < 40) (gd (rI (t_learntBy y3)) (gd (rI x1) (if (t_learntBy y3) = x1 then (m_X2_learntIn_b25 N t_size t_learntBy x1 (m_X2_learntIn_b4 N t_size t_learntBy x1 n) (y2 + 1) y3) else (m_X2_learntIn_b25 N t_size t_learntBy x1 (m_X2_learntIn_b4 N t_size t_learntBy x1 n) y2 y3)))))))
def m_X2_learntIn (N : Nat) (t_size : Int) (t_learntBy : Int → Int) (x1 : Int) : Option (Int) :=
  m_X2_learntIn_b4 N t_size t_learntBy x1 N 0 0
def m_X6_move (N : Nat) (t_good : Int → Int) (t_bad : Int → Int) (x1 : Int) (x2 : Int) (x3 : Int) : Option ((Int → Int) × (Int → Int)) :=
  gd ((0 : Int) ≤ x1 ∧ x1 < 1000) (some (uP t_good x1 ((t_good x1) + x2), uP t_bad x1 ((t_bad x1) + x3)))
def m_X2_move_b65 (N : Nat) (t_size : Int) (t_score : Int → Int) (t_result : Int → Int) (t_learntBy : Int → Int) (x2 : Int) (x3 : Int) (k3 : (Int → Int) → (Int → Int) → Int → Option ((Int → Int) × (Int → Int))) (p1_good : Int → Int) (p1_bad : Int → Int) (y4 : Int) : Option ((Int → Int) × (Int → Int)) :=
  k3 p1_good p1_bad (y4 + 1)
def m_X2_move_b62 (N : Nat) (t_size : Int) (t_score : Int → Int) (t_result : Int → Int) (t_learntBy : Int → Int) (x2 : Int) (x3 : Int) (k3 : (Int → Int) → (Int → Int) → Int → Option ((Int → Int) × (Int → Int))) (p1_good : Int → Int) (p1_bad : Int → Int) (y4 : Int) (s1 : Int) (s2 : Int) (s3 : Int) : Option ((Int → Int) × (Int → Int)) :=
  (m_X6_move N p1_good p1_bad s1 s2 s3).bind fun r1 => m_X2_move_b65 N t_size t_score t_result t_learntBy x2 x3 k3 r1.1 r1.2 y4
def m_X2_move_b46 (N : Nat) (t_size : Int) (t_score : Int → Int) (t_result : Int → Int) (t_learntBy : Int → Int) (x2 : Int) (x3 : Int) (k3 : (Int → Int) → (Int → Int) → Int → Option ((Int → Int) × (Int → Int))) (p1_good : Int → Int) (p1_bad : Int → Int) (y4 : Int) (s1 : Int) (s2 : Int) : Option ((Int → Int) × (Int → Int)) :=
  gd ((0 : Int) ≤ y4 ∧ y4 < 40) (gd (rI (t_result y4)) (if (t_result y4) = 1 then (m_X2_move_b62 N t_size t_score t_result t_learntBy x2 x3 k3 p1_good p1_bad y4 s1 s2 x3) else (m_X2_move_b62 N t_size t_score t_result t_learntBy x2 x3 k3 p1_good p1_bad y4 s1 s2 0)))
def m_X2_move_b3 (N : Nat) (t_size : Int) (t_score : Int → Int) (t_result : Int → Int) (t_learntBy : Int → Int) (x2 : Int) (x3 : Int) : Nat → (Int → Int) → (Int → Int) → Int → Option ((Int → Int) × (Int → Int))
  | 0, _, _, _ => none
  | n + 1, p1_good, p1_bad, y4 =>
    gd (rI y4) (gd (rI t_size) (if t_size ≤ y4 then (some (p1_good, p1_bad)) else (gd ((0 : Int) ≤ y4 ∧ y4 < 40) (gd (rI (t_learntBy y4)) (gd (rI x2) (if (t_learntBy y4) = x2 then (gd (rI (t_result y4)) (if (t_result y4) = 0 then (m_X2_move_b46 N t_size t_score t_result t_learntBy x2 x3 (m_X2_move_b3 N t_size t_score t_result t_learntBy x2 x3 n) p1_good p1_bad y4 (t_score y4) x3) else (m_X2_move_b46 N t_size t_score t_result t_learntBy x2 x3 (m_X2_move_b3 N t_size t_score t_result t_learntBy x2 x3 n) p1_good p1_bad y4 (t_score y4) 0))) else (m_X2_move_b65 N t_size t_score t_result t_learntBy x2 x3 (m_X2_move_b3 N t_size t_score t_result t_learntBy x2 x3 n) p1_good p1_bad y4)))))))
def m_X2_move (N : Nat) (t_size : Int) (t_score : Int → Int) (t_result : Int → Int) (t_learntBy : Int → Int) (p1_good : Int → Int) (p1_bad : Int → Int) (x2 : Int) (x3 : Int) : Option ((Int → Int) × (Int → Int)) :=
  m_X2_move_b3 N t_size t_score t_result t_learntBy x2 x3 N p1_good p1_bad 0
def m_X3_init (N : Nat) : Option (Int × (Int → Int) × (Int → Int) × (Int → Int)) :=
  some (0, (fun _ => 0), (fun _ => 0), (fun _ => 0))
def m_X4_place_b16 (N : Nat) (t_size : Int) (t_least : Int → Int) (x1 : Int) : Nat → Int → Option (Int)
  | 0, _ => none
  | n + 1, y2 =>
    gd (rI y2) (if y2 ≤ 0 then (some y2) else (gd ((0 : Int) ≤ y2 ∧ y2 < 60) (gd (rI (t_least y2)) (gd (rI x1) (if (t_least y2) ≤ x1 then (some y2) else (m_X4_place_b16 N t_size t_least x1 n (y2 + (-1))))))))
def m_X4_place (N : Nat) (t_size : Int) (t_least : Int → Int) (x1 : Int) : Option (Int) :=
  gd (rI t_size) (if t_size = 0 then (some (-1)) else (m_X4_place_b16 N t_size t_least x1 N (t_size - 1)))
def m_X4_has_b16 (N : Nat) (t_size : Int) (x1 : Int)  : Option (Int) :=
  some 0
def m_X4_has (N : Nat) (t_size : Int) (x1 : Int) : Option (Int) :=
  gd (rI x1) (if x1 < 0 then (m_X4_has_b16 N t_size x1 ) else (gd (rI t_size) (if t_size ≤ x1 then (m_X4_has_b16 N t_size x1 ) else (some 1))))
def m_X4_cases (N : Nat) (t_good : Int → Int) (t_bad : Int → Int) (x1 : Int) : Option (Int) :=
  gd ((0 : Int) ≤ x1 ∧ x1 < 60) (some ((t_good x1) + (t_bad x1)))
def m_X3_badOf_b31 (N : Nat) (p1_size : Int) (p1_least : Int → Int) (p1_good : Int → Int) (p1_bad : Int → Int) (x0 : Int) (x2 : Int) (x3 : Int) (y4 : Int) (s0 : Int) : Option (Int) :=
  gd (rL s0) (if s0 = 0 then (some 0) else (gd (rI x0) (gd (rI x3) (gd ((0 : Int) ≤ y4 ∧ y4 < 60) (gd (rI (p1_bad y4)) (gd ((0 ≤ ((x0 * x3) * (p1_bad y4)) ∧ rL ((x0 * x3) * (p1_bad y4))) ∧ (0 : Int) < s0 ∧ rL s0) (gd (rL (((x0 * x3) * (p1_bad y4)) / s0)) (gd (rL x0) (some (min (((x0 * x3) * (p1_bad y4)) / s0) x0))))))))))
def m_X3_badOf (N : Nat) (p1_size : Int) (p1_least : Int → Int) (p1_good : Int → Int) (p1_bad : Int → Int) (x0 : Int) (x2 : Int) (x3 : Int) : Option (Int) :=
  (m_X4_place N p1_size p1_least x2).bind fun r1 => (m_X4_has N p1_size r1).bind fun r2 => gd (rI r2) (if r2 = 0 then (m_X3_badOf_b31 N p1_size p1_least p1_good p1_bad x0 x2 x3 r1 0) else ((m_X4_cases N p1_good p1_bad r1).bind fun r5 => gd (rI r5) (m_X3_badOf_b31 N p1_size p1_least p1_good p1_bad x0 x2 x3 r1 (100 * r5))))
def m_X3_gather_b95 (N : Nat) (p1_open : Int → Int) (p2_size : Int) (p2_least : Int → Int) (p2_good : Int → Int) (p2_bad : Int → Int) (x3 : Int) (k8 : Int → (Int → Int) → (Int → Int) → (Int → Int) → Int → Option (Int × (Int → Int) × (Int → Int) × (Int → Int))) (t_size : Int) (t_score : Int → Int) (t_open : Int → Int) (t_bad : Int → Int) (y4 : Int) : Option (Int × (Int → Int) × (Int → Int) × (Int → Int)) :=
  k8 t_size t_score t_open t_bad (y4 + 1)
def m_X3_gather_b8 (N : Nat) (p1_open : Int → Int) (p2_size : Int) (p2_least : Int → Int) (p2_good : Int → Int) (p2_bad : Int → Int) (x3 : Int) : Nat → Int → (Int → Int) → (Int → Int) → (Int → Int) → Int → Option (Int × (Int → Int) × (Int → Int) × (Int → Int))
  | 0, _, _, _, _, _ => none
  | n + 1, t_size, t_score, t_open, t_bad, y4 =>
    gd (rI y4) (if 1000 ≤ y4 then (some (t_size, t_score, t_open, t_bad)) else (gd (rI t_size) (if 60 ≤ t_size then (some (t_size, t_score, t_open, t_bad)) else (gd ((0 : Int) ≤ y4 ∧ y4 < 1000) (gd (rI (p1_open y4)) (if (p1_open y4) ≤ 0 then (m_X3_gather_b95 N p1_open p2_size p2_least p2_good p2_bad x3 (m_X3_gather_b8 N p1_open p2_size p2_least p2_good p2_bad x3 n) t_size t_score t_open t_bad y4) else (gd ((0 : Int) ≤ t_size ∧ t_size < 60) ((m_X3_badOf N p2_size p2_least p2_good p2_bad (p1_open y4) y4 x3).bind fun r9 => m_X3_gather_b95 N p1_open p2_size p2_least p2_good p2_bad x3 (m_X3_gather_b8 N p1_open p2_size p2_least p2_good p2_bad x3 n) (t_size + 1) (uP t_score t_size y4) (uP t_open t_size (p1_open y4)) (uP t_bad t_size r9) y4))))))))
def m_X3_gather (N : Nat) (p1_open : Int → Int) (p2_size : Int) (p2_least : Int → Int) (p2_good : Int → Int) (p2_bad : Int → Int) (t_size : Int) (t_score : Int → Int) (t_open : Int → Int) (t_bad : Int → Int) (x3 : Int) : Option (Int × (Int → Int) × (Int → Int) × (Int → Int)) :=
  m_X3_gather_b8 N p1_open p2_size p2_least p2_good p2_bad x3 N 0 t_score t_open t_bad 0
def m_X3_move_b2 (N : Nat) (t_size : Int) (t_score : Int → Int) (t_open : Int → Int) (t_bad : Int → Int) (x2 : Int) : Nat → (Int → Int) → (Int → Int) → (Int → Int) → Int → Option ((Int → Int) × (Int → Int) × (Int → Int))
  | 0, _, _, _, _ => none
  | n + 1, p1_good, p1_bad, p1_open, y3 =>
    gd (rI y3) (gd (rI t_size) (if t_size ≤ y3 then (some (p1_good, p1_bad, p1_open)) else (gd ((0 : Int) ≤ y3 ∧ y3 < 60) (gd ((0 : Int) ≤ (t_score y3) ∧ (t_score y3) < 1000) ((m_X6_move N p1_good p1_bad (t_score y3) (x2 * ((t_open y3) - (t_bad y3))) (x2 * (t_bad y3))).bind fun r6 => m_X3_move_b2 N t_size t_score t_open t_bad x2 n r6.1 r6.2 (uP p1_open (t_score y3) ((p1_open (t_score y3)) - (x2 * (t_open y3)))) (y3 + 1))))))
def m_X3_move (N : Nat) (t_size : Int) (t_score : Int → Int) (t_open : Int → Int) (t_bad : Int → Int) (p1_good : Int → Int) (p1_bad : Int → Int) (p1_open : Int → Int) (x2 : Int) : Option ((Int → Int) × (Int → Int) × (Int → Int)) :=
  m_X3_move_b2 N t_size t_score t_open t_bad x2 N p1_good p1_bad p1_open 0
def m_X4_init (N : Nat) : Option (Int × (Int → Int) × (Int → Int) × (Int → Int) × (Int → Int) × (Int → Int)) :=
  some (0, (fun _ => 0), (fun _ => 0), (fun _ => 0), (fun _ => 0), (fun _ => 0))
def m_X4_falls (N : Nat) (t_good : Int → Int) (t_bad : Int → Int) (x1 : Int) : Option (Int) :=
  gd ((0 : Int) ≤ (x1 + 1) ∧ (x1 + 1) < 60) ((m_X4_cases N t_good t_bad x1).bind fun r2 => gd ((0 : Int) ≤ x1 ∧ x1 < 60) ((m_X4_cases N t_good t_bad (x1 + 1)).bind fun r4 => gd (rI ((t_bad (x1 + 1)) * r2)) (gd (rI ((t_bad x1) * r4)) (if ((t_bad x1) * r4) ≤ ((t_bad (x1 + 1)) * r2) then (some 0) else (some 1)))))
def m_X4_join (N : Nat) (t_size : Int) (t_least : Int → Int) (t_greatest : Int → Int) (t_good : Int → Int) (t_bad : Int → Int) (t_rowsIn : Int → Int) (x1 : Int) : Option (Int × (Int → Int) × (Int → Int) × (Int → Int) × (Int → Int) × (Int → Int)) :=
  gd (rI x1) (if x1 < 0 then (some (t_size, t_least, t_greatest, t_good, t_bad, t_rowsIn)) else (gd (rI (x1 + 1)) (gd (rI t_size) (if (x1 + 1) < t_size then (gd ((0 : Int) ≤ (x1 + 1) ∧ (x1 + 1) < 60) (gd ((0 : Int) ≤ x1 ∧ x1 < 60) (gd (rI (x1 + 2)) (gd (rI (((t_size - 1) - x1) - 1)) (gd ((0 ≤ (x1 + 2) ∧ 0 ≤ (x1 + 1) ∧ 0 ≤ (((t_size - 1) - x1) - 1)) ∧ (x1 + 2) + (((t_size - 1) - x1) - 1) ≤ 60 ∧ (x1 + 1) + (((t_size - 1) - x1) - 1) ≤ 60) (some (t_size - 1, cP t_least t_least (x1 + 2) (x1 + 1) (((t_size - 1) - x1) - 1), cP (uP t_greatest x1 (t_greatest (x1 + 1))) (uP t_greatest x1 (t_greatest (x1 + 1))) (x1 + 2) (x1 + 1) (((t_size - 1) - x1) - 1), cP (uP t_good x1 ((t_good x1) + (t_good (x1 + 1)))) (uP t_good x1 ((t_good x1) + (t_good (x1 + 1)))) (x1 + 2) (x1 + 1) (((t_size - 1) - x1) - 1), cP (uP t_bad x1 ((t_bad x1) + (t_bad (x1 + 1)))) (uP t_bad x1 ((t_bad x1) + (t_bad (x1 + 1)))) (x1 + 2) (x1 + 1) (((t_size - 1) - x1) - 1), cP (uP t_rowsIn x1 ((t_rowsIn x1) + (t_rowsIn (x1 + 1)))) (uP t_rowsIn x1 ((t_rowsIn x1) + (t_rowsIn (x1 + 1)))) (x1 + 2) (x1 + 1) (((t_size - 1) - x1) - 1)))))))) else (some (t_size, t_least, t_greatest, t_good, t_bad, t_rowsIn))))))
def m_X4_fillPure_b128 (N : Nat) (p1_size : Int) (p1_score : Int → Int) (p1_good : Int → Int) (p1_bad : Int → Int) (k7 : Int → (Int → Int) → (Int → Int) → (Int → Int) → (Int → Int) → (Int → Int) → Int → Option (Int × (Int → Int) × (Int → Int) × (Int → Int) × (Int → Int) × (Int → Int))) (t_size : Int) (t_least : Int → Int) (t_greatest : Int → Int) (t_good : Int → Int) (t_bad : Int → Int) (t_rowsIn : Int → Int) (y2 : Int) : Option (Int × (Int → Int) × (Int → Int) × (Int → Int) × (Int → Int) × (Int → Int)) :=
  k7 t_size t_least t_greatest t_good t_bad t_rowsIn (y2 + 1)
def m_X4_fillPure_b100 (N : Nat) (p1_size : Int) (p1_score : Int → Int) (p1_good : Int → Int) (p1_bad : Int → Int) (y2 : Int) (k7 : Int → (Int → Int) → (Int → Int) → (Int → Int) → (Int → Int) → (Int → Int) → Int → Option (Int × (Int → Int) × (Int → Int) × (Int → Int) × (Int → Int) × (Int → Int))) : Nat → Int → (Int → Int) → (Int → Int) → (Int → Int) → (Int → Int) → (Int → Int) → Int → Option (Int × (Int → Int) × (Int → Int) × (Int → Int) × (Int → Int) × (Int → Int))
  | 0, _, _, _, _, _, _, _ => none
  | n + 1, t_size, t_least, t_greatest, t_good, t_bad, t_rowsIn, y3 =>
    gd (rI y3) (if y3 < 2 then (m_X4_fillPure_b128 N p1_size p1_score p1_good p1_bad k7 t_size t_least t_greatest t_good t_bad t_rowsIn y2) else ((m_X4_falls N t_good t_bad (y3 - 2)).bind fun r3 => gd (rI r3) (if r3 = 0 then ((m_X4_join N t_size t_least t_greatest t_good t_bad t_rowsIn (y3 - 2)).bind fun r6 => m_X4_fillPure_b100 N p1_size p1_score p1_good p1_bad y2 k7 n r6.1 r6.2.1 r6.2.2.1 r6.2.2.2.1 r6.2.2.2.2.1 r6.2.2.2.2.2 (y3 + (-1))) else (m_X4_fillPure_b128 N p1_size p1_score p1_good p1_bad k7 t_size t_least t_greatest t_good t_bad t_rowsIn y2))))
def m_X4_fillPure_b7 (N : Nat) (p1_size : Int) (p1_score : Int → Int) (p1_good : Int → Int) (p1_bad : Int → Int) : Nat → Int → (Int → Int) → (Int → Int) → (Int → Int) → (Int → Int) → (Int → Int) → Int → Option (Int × (Int → Int) × (Int → Int) × (Int → Int) × (Int → Int) × (Int → Int))
  | 0, _, _, _, _, _, _, _ => none
  | n + 1, t_size, t_least, t_greatest, t_good, t_bad, t_rowsIn, y2 =>
    gd (rI y2) (gd (rI p1_size) (if p1_size ≤ y2 then (some (t_size, t_least, t_greatest, t_good, t_bad, t_rowsIn)) else (gd ((0 : Int) ≤ y2 ∧ y2 < 60) (gd ((0 : Int) ≤ t_size ∧ t_size < 60) (m_X4_fillPure_b100 N p1_size p1_score p1_good p1_bad y2 (m_X4_fillPure_b7 N p1_size p1_score p1_good p1_bad n) N (t_size + 1) (uP t_least t_size (p1_score y2)) (uP t_greatest t_size (p1_score y2)) (uP t_good t_size (p1_good y2)) (uP t_bad t_size (p1_bad y2)) (uP t_rowsIn t_size 1) (t_size + 1))))))
def m_X4_fillPure (N : Nat) (p1_size : Int) (p1_score : Int → Int) (p1_good : Int → Int) (p1_bad : Int → Int) (t_size : Int) (t_least : Int → Int) (t_greatest : Int → Int) (t_good : Int → Int) (t_bad : Int → Int) (t_rowsIn : Int → Int) : Option (Int × (Int → Int) × (Int → Int) × (Int → Int) × (Int → Int) × (Int → Int)) :=
  m_X4_fillPure_b7 N p1_size p1_score p1_good p1_bad N 0 t_least t_greatest t_good t_bad t_rowsIn 0
def m_X4_copy (N : Nat) (p1_size : Int) (p1_least : Int → Int) (p1_greatest : Int → Int) (p1_good : Int → Int) (p1_bad : Int → Int) (p1_rowsIn : Int → Int) (t_size : Int) (t_least : Int → Int) (t_greatest : Int → Int) (t_good : Int → Int) (t_bad : Int → Int) (t_rowsIn : Int → Int) : Option (Int × (Int → Int) × (Int → Int) × (Int → Int) × (Int → Int) × (Int → Int)) :=
  gd (rI p1_size) (gd ((0 ≤ (0 : Int) ∧ 0 ≤ (0 : Int) ∧ 0 ≤ p1_size) ∧ (0 : Int) + p1_size ≤ 60 ∧ (0 : Int) + p1_size ≤ 60) (some (p1_size, cP p1_least t_least 0 0 p1_size, cP p1_greatest t_greatest 0 0 p1_size, cP p1_good t_good 0 0 p1_size, cP p1_bad t_bad 0 0 p1_size, cP p1_rowsIn t_rowsIn 0 0 p1_size)))
def m_X4_smallest_b27 (N : Nat) (t_size : Int) (t_good : Int → Int) (t_bad : Int → Int) (k4 : Int → Int → Option (Int)) (y1 : Int) (y2 : Int) : Option (Int) :=
  k4 y1 (y2 + 1)
def m_X4_smallest_b4 (N : Nat) (t_size : Int) (t_good : Int → Int) (t_bad : Int → Int) : Nat → Int → Int → Option (Int)
  | 0, _, _ => none
  | n + 1, y1, y2 =>
    gd (rI y2) (gd (rI t_size) (if t_size ≤ y2 then (some y1) else ((m_X4_cases N t_good t_bad y2).bind fun r4 => (m_X4_cases N t_good t_bad y1).bind fun r5 => gd (rI r4) (gd (rI r5) (if r5 ≤ r4 then (m_X4_smallest_b27 N t_size t_good t_bad (m_X4_smallest_b4 N t_size t_good t_bad n) y1 y2) else (m_X4_smallest_b27 N t_size t_good t_bad (m_X4_smallest_b4 N t_size t_good t_bad n) y2 y2))))))
def m_X4_smallest (N : Nat) (t_size : Int) (t_good : Int → Int) (t_bad : Int → Int) : Option (Int) :=
  m_X4_smallest_b4 N t_size t_good t_bad N 0 1
def m_X4_rise (N : Nat) (t_good : Int → Int) (t_bad : Int → Int) (x1 : Int) : Option (Int) :=
  gd ((0 : Int) ≤ x1 ∧ x1 < 60) (gd (rI (t_bad x1)) ((m_X4_cases N t_good t_bad (x1 + 1)).bind fun r3 => gd (rI r3) (gd ((0 : Int) ≤ (x1 + 1) ∧ (x1 + 1) < 60) (gd (rI (t_bad (x1 + 1))) ((m_X4_cases N t_good t_bad x1).bind fun r7 => gd (rI r7) (gd (rL (((t_bad x1) * r3) - ((t_bad (x1 + 1)) * r7))) (some (iabs (((t_bad x1) * r3) - ((t_bad (x1 + 1)) * r7))))))))))
def m_X4_isLowerNearer (N : Nat) (t_size : Int) (t_good : Int → Int) (t_bad : Int → Int) (x1 : Int) : Option (Int) :=
  gd (rI x1) (if x1 = 0 then (some 0) else (gd (rI (t_size - 1)) (if x1 = (t_size - 1) then (some 1) else ((m_X4_rise N t_good t_bad (x1 - 1)).bind fun r5 => (m_X4_cases N t_good t_bad (x1 + 1)).bind fun r6 => gd (rI r6) ((m_X4_rise N t_good t_bad x1).bind fun r8 => (m_X4_cases N t_good t_bad (x1 - 1)).bind fun r9 => gd (rI r9) (gd (rL (r5 * r6)) (gd (rL (r8 * r9)) (if (r8 * r9) < (r5 * r6) then (some 0) else (some 1)))))))))
def m_X4_joinSmall_b41 (N : Nat) (x1 : Int) (k5 : Int → (Int → Int) → (Int → Int) → (Int → Int) → (Int → Int) → (Int → Int) → Int → Option (Int × (Int → Int) × (Int → Int) × (Int → Int) × (Int → Int) × (Int → Int))) (t_size : Int) (t_least : Int → Int) (t_greatest : Int → Int) (t_good : Int → Int) (t_bad : Int → Int) (t_rowsIn : Int → Int) (y2 : Int) (s1 : Int) : Option (Int × (Int → Int) × (Int → Int) × (Int → Int) × (Int → Int) × (Int → Int)) :=
  (m_X4_join N t_size t_least t_greatest t_good t_bad t_rowsIn s1).bind fun r1 => k5 r1.1 r1.2.1 r1.2.2.1 r1.2.2.2.1 r1.2.2.2.2.1 r1.2.2.2.2.2 (y2 + (-1))
def m_X4_joinSmall_b5 (N : Nat) (x1 : Int) : Nat → Int → (Int → Int) → (Int → Int) → (Int → Int) → (Int → Int) → (Int → Int) → Int → Option (Int × (Int → Int) × (Int → Int) × (Int → Int) × (Int → Int) × (Int → Int))
  | 0, _, _, _, _, _, _, _ => none
  | n + 1, t_size, t_least, t_greatest, t_good, t_bad, t_rowsIn, y2 =>
    gd (rI y2) (if y2 < 2 then (some (t_size, t_least, t_greatest, t_good, t_bad, t_rowsIn)) else ((m_X4_smallest N t_size t_good t_bad).bind fun r3 => (m_X4_cases N t_good t_bad r3).bind fun r4 => gd (rI r4) (gd (rI x1) (if r4 < x1 then ((m_X4_isLowerNearer N t_size t_good t_bad r3).bind fun r8 => gd (rI r8) (if r8 = 0 then (m_X4_joinSmall_b41 N x1 (m_X4_joinSmall_b5 N x1 n) t_size t_least t_greatest t_good t_bad t_rowsIn y2 r3) else (m_X4_joinSmall_b41 N x1 (m_X4_joinSmall_b5 N x1 n) t_size t_least t_greatest t_good t_bad t_rowsIn y2 (r3 - 1)))) else (some (t_size, t_least, t_greatest, t_good, t_bad, t_rowsIn))))))
def m_X4_joinSmall (N : Nat) (t_size : Int) (t_least : Int → Int) (t_greatest : Int → Int) (t_good : Int → Int) (t_bad : Int → Int) (t_rowsIn : Int → Int) (x1 : Int) : Option (Int × (Int → Int) × (Int → Int) × (Int → Int) × (Int → Int) × (Int → Int)) :=
  m_X4_joinSmall_b5 N x1 N t_size t_least t_greatest t_good t_bad t_rowsIn t_size
def m_X4_growthAbove (N : Nat) (t_good : Int → Int) (t_bad : Int → Int) (x1 : Int) : Option (Int) :=
  (m_X4_rise N t_good t_bad x1).bind fun r1 => (m_X4_rise N t_good t_bad x1).bind fun r2 => some (r1 * r2)
def m_X4_growthBelow (N : Nat) (t_good : Int → Int) (t_bad : Int → Int) (x1 : Int) : Option (Int) :=
  (m_X4_cases N t_good t_bad x1).bind fun r1 => gd (rI r1) ((m_X4_cases N t_good t_bad (x1 + 1)).bind fun r3 => gd (rI r3) ((m_X4_cases N t_good t_bad x1).bind fun r5 => (m_X4_cases N t_good t_bad (x1 + 1)).bind fun r6 => gd (rI (r5 + r6)) (some ((r1 * r3) * (r5 + r6)))))
def m_X5_isLess_b144 (N : Nat) (x0 : Int) (x2 : Int) (x4 : Int) (x6 : Int) (k20 : Int → Int → Int → Int → Int → Int → Option (Int)) (y8 : Int) (y10 : Int) (y12 : Int) (y14 : Int) (y17 : Int) (s0 : Int) : Option (Int) :=
  k20 y8 y10 y12 y14 s0 (y17 + 1)
def m_X5_isLess_b192 (N : Nat) (x0 : Int) (x2 : Int) (x4 : Int) (x6 : Int) (y16 : Int) (y17 : Int) (s0 : Int) : Option (Int) :=
  gd (rI y16) (if y16 = 0 then (gd (y17 = 0 ∨ y17 = 1) (some y17)) else (gd (s0 = 0 ∨ s0 = 1) (some s0)))
def m_X5_isLess_b191 (N : Nat) (x0 : Int) (x2 : Int) (x4 : Int) (x6 : Int) (y16 : Int) (y17 : Int) : Option (Int) :=
  m_X5_isLess_b192 N x0 x2 x4 x6 y16 y17 0
def m_X5_isLess_b171 (N : Nat) (x0 : Int) (x2 : Int) (x4 : Int) (x6 : Int) (y10 : Int) (y14 : Int) (y16 : Int) (s0 : Int) : Option (Int) :=
  gd (rL y10) (if y10 = 0 then (gd (rL y14) (if y14 = 0 then (m_X5_isLess_b191 N x0 x2 x4 x6 y16 s0) else (m_X5_isLess_b192 N x0 x2 x4 x6 y16 s0 1))) else (m_X5_isLess_b191 N x0 x2 x4 x6 y16 s0))
def m_X5_isLess_b170 (N : Nat) (x0 : Int) (x2 : Int) (x4 : Int) (x6 : Int) (y10 : Int) (y14 : Int) (y16 : Int) : Option (Int) :=
  m_X5_isLess_b171 N x0 x2 x4 x6 y10 y14 y16 0
def m_X5_isLess_b152 (N : Nat) (x0 : Int) (x2 : Int) (x4 : Int) (x6 : Int) (y10 : Int) (y14 : Int) (y16 : Int) : Option (Int) :=
  gd (rL y14) (if y14 = 0 then (gd (rL y10) (if y10 = 0 then (m_X5_isLess_b170 N x0 x2 x4 x6 y10 y14 y16) else (m_X5_isLess_b171 N x0 x2 x4 x6 y10 y14 y16 1))) else (m_X5_isLess_b170 N x0 x2 x4 x6 y10 y14 y16))
def m_X5_isLess_b20 (N : Nat) (x0 : Int) (x2 : Int) (x4 : Int) (x6 : Int) : Nat → Int → Int → Int → Int → Int → Int → Option (Int)
  | 0, _, _, _, _, _, _ => none
  | n + 1, y8, y10, y12, y14, y16, y17 =>
    gd (rI y17) (if 100 ≤ y17 then (m_X5_isLess_b152 N x0 x2 x4 x6 y10 y14 y16) else (gd (rL y10) (if y10 = 0 then (m_X5_isLess_b152 N x0 x2 x4 x6 y10 y14 y16) else (gd (rL y14) (if y14 = 0 then (m_X5_isLess_b152 N x0 x2 x4 x6 y10 y14 y16) else (gd ((0 ≤ y8 ∧ rL y8) ∧ (0 : Int) < y10 ∧ rL y10) (gd ((0 ≤ y12 ∧ rL y12) ∧ (0 : Int) < y14 ∧ rL y14) (gd (rL (y8 / y10)) (gd (rL (y12 / y14)) (if (y8 / y10) = (y12 / y14) then (gd (rI y16) (if y16 = 0 then (m_X5_isLess_b144 N x0 x2 x4 x6 (m_X5_isLess_b20 N x0 x2 x4 x6 n) y10 (y8 - ((y8 / y10) * y10)) y14 (y12 - ((y12 / y14) * y14)) y17 1) else (m_X5_isLess_b144 N x0 x2 x4 x6 (m_X5_isLess_b20 N x0 x2 x4 x6 n) y10 (y8 - ((y8 / y10) * y10)) y14 (y12 - ((y12 / y14) * y14)) y17 0))) else (gd (rI y16) (if y16 = 0 then (if (y12 / y14) ≤ (y8 / y10) then (some 0) else (some 1)) else (if (y8 / y10) ≤ (y12 / y14) then (some 0) else (some 1))))))))))))))
def m_X5_isLess (N : Nat) (x0 : Int) (x2 : Int) (x4 : Int) (x6 : Int) : Option (Int) :=
  m_X5_isLess_b20 N x0 x2 x4 x6 N x0 x2 x4 x6 0 0
def m_X4_cheapest_b42 (N : Nat) (t_size : Int) (t_good : Int → Int) (t_bad : Int → Int) (k4 : Int → Int → Option (Int)) (y1 : Int) (y2 : Int) : Option (Int) :=
  k4 y1 (y2 + 1)
def m_X4_cheapest_b4 (N : Nat) (t_size : Int) (t_good : Int → Int) (t_bad : Int → Int) : Nat → Int → Int → Option (Int)
  | 0, _, _ => none
  | n + 1, y1, y2 =>
    gd (rI y2) (gd (rI (t_size - 1)) (if (t_size - 1) ≤ y2 then (some y1) else ((m_X4_growthAbove N t_good t_bad y2).bind fun r4 => (m_X4_growthBelow N t_good t_bad y2).bind fun r5 => (m_X4_growthAbove N t_good t_bad y1).bind fun r6 => (m_X4_growthBelow N t_good t_bad y1).bind fun r7 => (m_X5_isLess N r4 r5 r6 r7).bind fun r8 => gd (rI r8) (if r8 = 0 then (m_X4_cheapest_b42 N t_size t_good t_bad (m_X4_cheapest_b4 N t_size t_good t_bad n) y1 y2) else (m_X4_cheapest_b42 N t_size t_good t_bad (m_X4_cheapest_b4 N t_size t_good t_bad n) y2 y2)))))
def m_X4_cheapest (N : Nat) (t_size : Int) (t_good : Int → Int) (t_bad : Int → Int) : Option (Int) :=
  m_X4_cheapest_b4 N t_size t_good t_bad N 0 1
def m_X4_joinMany_b5 (N : Nat) (x1 : Int) : Nat → Int → (Int → Int) → (Int → Int) → (Int → Int) → (Int → Int) → (Int → Int) → Int → Option (Int × (Int → Int) × (Int → Int) × (Int → Int) × (Int → Int) × (Int → Int))
  | 0, _, _, _, _, _, _, _ => none
  | n + 1, t_size, t_least, t_greatest, t_good, t_bad, t_rowsIn, y2 =>
    gd (rI y2) (if y2 < 2 then (some (t_size, t_least, t_greatest, t_good, t_bad, t_rowsIn)) else (gd (rI x1) (if y2 ≤ x1 then (some (t_size, t_least, t_greatest, t_good, t_bad, t_rowsIn)) else ((m_X4_cheapest N t_size t_good t_bad).bind fun r5 => (m_X4_join N t_size t_least t_greatest t_good t_bad t_rowsIn r5).bind fun r6 => m_X4_joinMany_b5 N x1 n r6.1 r6.2.1 r6.2.2.1 r6.2.2.2.1 r6.2.2.2.2.1 r6.2.2.2.2.2 (y2 + (-1))))))
def m_X4_joinMany (N : Nat) (t_size : Int) (t_least : Int → Int) (t_greatest : Int → Int) (t_good : Int → Int) (t_bad : Int → Int) (t_rowsIn : Int → Int) (x1 : Int) : Option (Int × (Int → Int) × (Int → Int) × (Int → Int) × (Int → Int) × (Int → Int)) :=
  m_X4_joinMany_b5 N x1 N t_size t_least t_greatest t_good t_bad t_rowsIn t_size
def m_X4_goodBelow_b4 (N : Nat) (t_size : Int) (t_good : Int → Int) (x1 : Int) : Nat → Int → Int → Option (Int)
  | 0, _, _ => none
  | n + 1, y2, y3 =>
    gd (rI y3) (gd (rI x1) (if x1 ≤ y3 then (some y2) else (gd (rI t_size) (if t_size ≤ y3 then (some y2) else (gd ((0 : Int) ≤ y3 ∧ y3 < 60) (m_X4_goodBelow_b4 N t_size t_good x1 n (y2 + (t_good y3)) (y3 + 1)))))))
def m_X4_goodBelow (N : Nat) (t_size : Int) (t_good : Int → Int) (x1 : Int) : Option (Int) :=
  m_X4_goodBelow_b4 N t_size t_good x1 N 0 0
def m_X4_badBelow_b4 (N : Nat) (t_size : Int) (t_bad : Int → Int) (x1 : Int) : Nat → Int → Int → Option (Int)
  | 0, _, _ => none
  | n + 1, y2, y3 =>
    gd (rI y3) (gd (rI x1) (if x1 ≤ y3 then (some y2) else (gd (rI t_size) (if t_size ≤ y3 then (some y2) else (gd ((0 : Int) ≤ y3 ∧ y3 < 60) (m_X4_badBelow_b4 N t_size t_bad x1 n (y2 + (t_bad y3)) (y3 + 1)))))))
def m_X4_badBelow (N : Nat) (t_size : Int) (t_bad : Int → Int) (x1 : Int) : Option (Int) :=
  m_X4_badBelow_b4 N t_size t_bad x1 N 0 0
def m_X5_lowest_b54 (N : Nat) (x0 : Int) (x2 : Int) (x4 : Int) (y5 : Int) (s0 : Int) : Option (Int) :=
  gd (rL y5) (if y5 = 0 then (some s0) else (gd ((0 ≤ s0 ∧ rL s0) ∧ (0 : Int) < y5 ∧ rL y5) (some (s0 / y5))))
def m_X5_lowest_b44 (N : Nat) (x0 : Int) (x2 : Int) (x4 : Int) (y5 : Int) : Option (Int) :=
  gd (rI x4) (if x4 = 0 then (m_X5_lowest_b54 N x0 x2 x4 y5 x0) else (m_X5_lowest_b54 N x0 x2 x4 y5 x2))
def m_X5_lowest_b9 (N : Nat) (x0 : Int) (x2 : Int) (x4 : Int) : Nat → Int → Int → Int → Option (Int)
  | 0, _, _, _ => none
  | n + 1, y5, y7, y9 =>
    gd (rI y9) (if 100 ≤ y9 then (m_X5_lowest_b44 N x0 x2 x4 y5) else (gd (rL y7) (if y7 = 0 then (m_X5_lowest_b44 N x0 x2 x4 y5) else (gd ((0 ≤ y5 ∧ rL y5) ∧ (0 : Int) < y7 ∧ rL y7) (m_X5_lowest_b9 N x0 x2 x4 n y7 (y5 % y7) (y9 + 1))))))
def m_X5_lowest (N : Nat) (x0 : Int) (x2 : Int) (x4 : Int) : Option (Int) :=
  m_X5_lowest_b9 N x0 x2 x4 N x0 x2 0
def m_X4_badWith_b98 (N : Nat) (t_size : Int) (t_good : Int → Int) (t_bad : Int → Int) (x1 : Int) (x2 : Int) (y4 : Int) : Option (Int) :=
  (m_X5_lowest N y4 1 x2).bind fun r1 => some r1
def m_X4_badWith_b13 (N : Nat) (t_size : Int) (t_good : Int → Int) (t_bad : Int → Int) (x1 : Int) (x2 : Int) : Nat → Int → Int → Int → Option (Int)
  | 0, _, _, _ => none
  | n + 1, y3, y4, y6 =>
    gd (rI y6) (if y6 < 0 then (m_X4_badWith_b98 N t_size t_good t_bad x1 x2 y4) else (gd (rI y3) (if y3 ≤ 0 then (m_X4_badWith_b98 N t_size t_good t_bad x1 x2 y4) else (gd ((0 : Int) ≤ y6 ∧ y6 < 60) (gd (rI (t_good y6)) (if (t_good y6) < y3 then (gd (rI (t_bad y6)) (m_X4_badWith_b13 N t_size t_good t_bad x1 x2 n (y3 - (t_good y6)) (y4 + (t_bad y6)) (y6 + (-1)))) else (gd (rI (t_bad y6)) ((m_X5_lowest N ((y4 * (t_good y6)) + (y3 * (t_bad y6))) (t_good y6) x2).bind fun r10 => some r10))))))))
def m_X4_badWith (N : Nat) (t_size : Int) (t_good : Int → Int) (t_bad : Int → Int) (x1 : Int) (x2 : Int) : Option (Int) :=
  m_X4_badWith_b13 N t_size t_good t_bad x1 x2 N x1 0 (t_size - 1)
def m_X5_quotient (N : Nat) (x0 : Int) (x2 : Int) : Option (UInt64) :=
  gd (rL x2) (if x2 = 0 then (some FP.dconst0) else (gd (n64 (FP.ddiv (FP.l2d (kL x0)) (FP.l2d (kL x2)))) (some (FP.ddiv (FP.l2d (kL x0)) (FP.l2d (kL x2))))))
def m_X5_doubleBits_b87 (N : Nat) (x0 : UInt64) (y2 : UInt64) (y4 : Int) : Option (Int) :=
  gd (n64 (FP.dsub y2 FP.dconst1)) (gd (n64 (FP.dmul (FP.dsub y2 FP.dconst1) 4841369599423283200)) (some ((y4 * 4503599627370496) + (d2L (FP.dmul (FP.dsub y2 FP.dconst1) 4841369599423283200)))))
def m_X5_doubleBits_b55 (N : Nat) (x0 : UInt64) : Nat → UInt64 → Int → Int → Option (Int)
  | 0, _, _, _ => none
  | n + 1, y2, y4, y6 =>
    gd (rI y6) (if 1022 ≤ y6 then (m_X5_doubleBits_b87 N x0 y2 y4) else (if 0 ≤ (dcV y2 FP.dconst1 .g) then (m_X5_doubleBits_b87 N x0 y2 y4) else (gd (n64 (FP.dmul y2 4611686018427387904)) (m_X5_doubleBits_b55 N x0 n (FP.dmul y2 4611686018427387904) (y4 - 1) (y6 + 1)))))
def m_X5_doubleBits_b52 (N : Nat) (x0 : UInt64) (y2 : UInt64) (y4 : Int) : Option (Int) :=
  m_X5_doubleBits_b55 N x0 N y2 y4 0
def m_X5_doubleBits_b18 (N : Nat) (x0 : UInt64) : Nat → UInt64 → Int → Int → Option (Int)
  | 0, _, _, _ => none
  | n + 1, y2, y4, y6 =>
    gd (rI y6) (if 1023 ≤ y6 then (m_X5_doubleBits_b52 N x0 y2 y4) else (if (dcV y2 4611686018427387904 .l) < 0 then (m_X5_doubleBits_b52 N x0 y2 y4) else (gd (n64 (FP.ddiv y2 4611686018427387904)) (m_X5_doubleBits_b18 N x0 n (FP.ddiv y2 4611686018427387904) (y4 + 1) (y6 + 1)))))
def m_X5_doubleBits (N : Nat) (x0 : UInt64) : Option (Int) :=
  if 0 < (dcV x0 FP.dconst0 .l) then (m_X5_doubleBits_b18 N x0 N x0 1023 0) else (some 0)
def m_X5_floatBits_b44 (N : Nat) (x0 : UInt32) (y1 : UInt32) (y2 : Int) : Option (Int) :=
  gd (n32 (FP.fsub y1 FP.fconst1)) (gd (n32 (FP.fmul (FP.fsub y1 FP.fconst1) 1258291200)) (some ((y2 * 8388608) + (f2L (FP.fmul (FP.fsub y1 FP.fconst1) 1258291200)))))
def m_X5_floatBits_b17 (N : Nat) (x0 : UInt32) : Nat → UInt32 → Int → Int → Option (Int)
  | 0, _, _, _ => none
  | n + 1, y1, y2, y4 =>
    gd (rI y4) (if 126 ≤ y4 then (m_X5_floatBits_b44 N x0 y1 y2) else (if 0 ≤ (fcV y1 FP.fconst1 .g) then (m_X5_floatBits_b44 N x0 y1 y2) else (gd (n32 (FP.fmul y1 FP.fconst2)) (m_X5_floatBits_b17 N x0 n (FP.fmul y1 FP.fconst2) (y2 - 1) (y4 + 1)))))
def m_X5_floatBits (N : Nat) (x0 : UInt32) : Option (Int) :=
  if 0 < (fcV x0 FP.fconst0 .l) then (m_X5_floatBits_b17 N x0 N x0 127 0) else (some 0)
def m_X6_init (N : Nat) : Option (Int × Int × Int × Int × Int × (Int → Int) × (Int → Int) × (Int → Int)) :=
  some (1, 60, 1, 5, 1, (fun _ => 0), (fun _ => 0), (fun _ => 0))
def m_J7_fill_53178_b5 (N : Nat) (p0_n : Nat) (x1 : Int) (y3 : Int) : Nat → (Int → Int) → Int → Option ((Int → Int))
  | 0, _, _ => none
  | n + 1, p0, y2 =>
    gd (rI y2) (gd (rI y3) (if y3 ≤ y2 then (some p0) else (gd ((0 : Int) ≤ y2 ∧ y2 < (p0_n : Int)) (m_J7_fill_53178_b5 N p0_n x1 y3 n (uP p0 y2 x1) (y2 + 1)))))
def m_J7_fill_53178 (N : Nat) (p0_n : Nat) (p0 : Int → Int) (x1 : Int) : Option ((Int → Int)) :=
  m_J7_fill_53178_b5 N p0_n x1 (p0_n : Int) N p0 0
def m_X6_setCosts (N : Nat) (t_goodCost : Int) (t_badCost : Int) (t_referCost : Int) (x1 : Int) (x2 : Int) (x3 : Int) : Option (Int × Int × Int) :=
  some (x1, x2, x3)
def m_X6_take_b26 (N : Nat) (p1_ats : Int) (p1_least : Int) (p1_most : Int) (p1_score : Int → Int) (p1_good : Int → Int) (p1_bad : Int → Int) (p1_open : Int → Int) (p1_costs : Int → Int) (t_least : Int) (t_most : Int) (t_goodCost : Int) (t_badCost : Int) (t_referCost : Int) : Nat → (Int → Int) → (Int → Int) → (Int → Int) → Int → Option (Int × Int × Int × Int × Int × (Int → Int) × (Int → Int) × (Int → Int))
  | 0, _, _, _, _ => none
  | n + 1, t_good, t_bad, t_open, y2 =>
    gd (rI y2) (gd (rI p1_ats) (if p1_ats ≤ y2 then ((m_X6_setCosts N t_goodCost t_badCost t_referCost (p1_costs 0) (p1_costs 1) (p1_costs 2)).bind fun r4 => some (p1_least, p1_most, r4.1, r4.2.1, r4.2.2, t_good, t_bad, t_open)) else (gd ((0 : Int) ≤ y2 ∧ y2 < 60) (gd ((0 : Int) ≤ (p1_score y2) ∧ (p1_score y2) < 1000) (m_X6_take_b26 N p1_ats p1_least p1_most p1_score p1_good p1_bad p1_open p1_costs t_least t_most t_goodCost t_badCost t_referCost n (uP t_good (p1_score y2) (p1_good y2)) (uP t_bad (p1_score y2) (p1_bad y2)) (uP t_open (p1_score y2) (p1_open y2)) (y2 + 1))))))
def m_X6_take (N : Nat) (p1_ats : Int) (p1_least : Int) (p1_most : Int) (p1_score : Int → Int) (p1_good : Int → Int) (p1_bad : Int → Int) (p1_open : Int → Int) (p1_costs : Int → Int) (t_least : Int) (t_most : Int) (t_goodCost : Int) (t_badCost : Int) (t_referCost : Int) (t_good : Int → Int) (t_bad : Int → Int) (t_open : Int → Int) : Option (Int × Int × Int × Int × Int × (Int → Int) × (Int → Int) × (Int → Int)) :=
  (m_J7_fill_53178 N 1000 t_good 0).bind fun r1 => (m_J7_fill_53178 N 1000 t_bad 0).bind fun r2 => (m_J7_fill_53178 N 1000 t_open 0).bind fun r3 => m_X6_take_b26 N p1_ats p1_least p1_most p1_score p1_good p1_bad p1_open p1_costs t_least t_most t_goodCost t_badCost t_referCost N r1 r2 r3 0
def m_X6_setBound (N : Nat) (t_least : Int) (t_most : Int) (x1 : Int) (x2 : Int) : Option (Int × Int) :=
  gd (rI x1) (if x1 = 0 then (some (x2, t_most)) else (some (t_least, x2)))
def m_X6_opens_b4 (N : Nat) (t_open : Int → Int) : Nat → Int → Int → Option (Int)
  | 0, _, _ => none
  | n + 1, y1, y2 =>
    gd (rI y2) (if 1000 ≤ y2 then (some y1) else (gd ((0 : Int) ≤ y2 ∧ y2 < 1000) (m_X6_opens_b4 N t_open n (y1 + (t_open y2)) (y2 + 1))))
def m_X6_opens (N : Nat) (t_open : Int → Int) : Option (Int) :=
  m_X6_opens_b4 N t_open N 0 0
def m_X6_fits_b72 (N : Nat) (t_good : Int → Int) (t_bad : Int → Int) (k4 : Int → Int → Option (Int)) (y1 : Int) (y2 : Int) : Option (Int) :=
  k4 y1 (y2 + 1)
def m_X6_fits_b4 (N : Nat) (t_good : Int → Int) (t_bad : Int → Int) : Nat → Int → Int → Option (Int)
  | 0, _, _ => none
  | n + 1, y1, y2 =>
    gd (rI y2) (if 1000 ≤ y2 then (gd (rI y1) (if 60 < y1 then (some 0) else (some 1))) else (gd ((0 : Int) ≤ y2 ∧ y2 < 1000) (gd (rI (t_good y2)) (if (t_good y2) < 0 then (some 0) else (if 99 < (t_good y2) then (some 0) else (gd (rI (t_bad y2)) (if (t_bad y2) < 0 then (some 0) else (if (t_bad y2) ≤ 99 then (gd (rI ((t_good y2) + (t_bad y2))) (if ((t_good y2) + (t_bad y2)) ≤ 0 then (m_X6_fits_b72 N t_good t_bad (m_X6_fits_b4 N t_good t_bad n) y1 y2) else (m_X6_fits_b72 N t_good t_bad (m_X6_fits_b4 N t_good t_bad n) (y1 + 1) y2))) else (some 0)))))))))
def m_X6_fits (N : Nat) (t_good : Int → Int) (t_bad : Int → Int) : Option (Int) :=
  m_X6_fits_b4 N t_good t_bad N 0 0
def m_X7_init (N : Nat) : Option (Int × Int × Int × Int × Int × Int × Int × Int × Int × Int × Int × (Int → Int) × (Int → Int) × (Int → Int) × (Int → Int) × (Int → Int)) :=
  some (0, 0, 0, 0, 0, (-1), 0, 0, 0, 0, 0, (fun _ => 0), (fun _ => 0), (fun _ => 0), (fun _ => 0), (fun _ => 0))
def m_X7_begin (N : Nat) (t_ats : Int) (t_lines : Int) (t_least : Int) (t_most : Int) (t_faultKind : Int) (t_faultPlace : Int) (t_toldLines : Int) (t_next : Int) (t_costs : Int → Int) : Option (Int × Int × Int × Int × Int × Int × Int × Int × (Int → Int)) :=
  some (0, 0, 1, 60, 0, (-1), 0, 0, uP (uP (uP t_costs 0 1) 1 5) 2 1)
def m_X7_isBlank_b12 (N : Nat) (x0 : Int)  : Option (Int) :=
  some 1
def m_X7_isBlank (N : Nat) (x0 : Int) : Option (Int) :=
  gd (rI x0) (if x0 = 32 then (m_X7_isBlank_b12 N x0 ) else (if x0 = 10 then (m_X7_isBlank_b12 N x0 ) else (some 0)))
def m_X7_kindOf_b28 (N : Nat) (x0 : Int)  : Option (Int) :=
  gd (rI x0) (if x0 = 59 then (some 3) else (some 4))
def m_X7_kindOf_b14 (N : Nat) (x0 : Int)  : Option (Int) :=
  gd (rI x0) (if x0 < 48 then (m_X7_kindOf_b28 N x0 ) else (if 57 < x0 then (m_X7_kindOf_b28 N x0 ) else (some 2)))
def m_X7_kindOf (N : Nat) (x0 : Int) : Option (Int) :=
  gd (rI x0) (if x0 < 97 then (m_X7_kindOf_b14 N x0 ) else (if 122 < x0 then (m_X7_kindOf_b14 N x0 ) else (some 1)))
def m_X7_step_b107 (N : Nat) (t_faultKind : Int) (p1_size : Int) (p1_store : Int → Int) (p1_store_n : Nat) (t_kind : Int) (t_start : Int) (t_next : Int) (t_number : Int) : Option (Int × Int × Int × Int) :=
  some (t_kind, t_start, t_next + 1, t_number)
def m_X7_step_b185 (N : Nat) (t_faultKind : Int) (p1_size : Int) (p1_store : Int → Int) (p1_store_n : Nat) (t_kind : Int) (t_start : Int) (k118 : Int → Int → Option (Int × Int × Int × Int)) (t_next : Int) (t_number : Int) : Option (Int × Int × Int × Int) :=
  k118 (t_next + 1) t_number
def m_X7_step_b118 (N : Nat) (t_faultKind : Int) (p1_size : Int) (p1_store : Int → Int) (p1_store_n : Nat) (t_kind : Int) (t_start : Int) : Nat → Int → Int → Option (Int × Int × Int × Int)
  | 0, _, _ => none
  | n + 1, t_next, t_number =>
    gd (rI t_next) (gd (rI p1_size) (if p1_size ≤ t_next then (some (t_kind, t_start, t_next, t_number)) else (gd ((0 : Int) ≤ t_next ∧ t_next < (p1_store_n : Int)) ((m_X7_kindOf N (p1_store t_next)).bind fun r5 => gd (rI r5) (gd (rI t_kind) (if r5 = t_kind then (if t_kind = 2 then (gd (rI (((t_number * 10) + (p1_store t_next)) - 48)) (m_X7_step_b185 N t_faultKind p1_size p1_store p1_store_n t_kind t_start (m_X7_step_b118 N t_faultKind p1_size p1_store p1_store_n t_kind t_start n) t_next (min (((t_number * 10) + (p1_store t_next)) - 48) 1000000))) else (m_X7_step_b185 N t_faultKind p1_size p1_store p1_store_n t_kind t_start (m_X7_step_b118 N t_faultKind p1_size p1_store p1_store_n t_kind t_start n) t_next t_number)) else (some (t_kind, t_start, t_next, t_number))))))))
def m_X7_step_b83 (N : Nat) (t_faultKind : Int) (p1_size : Int) (p1_store : Int → Int) (p1_store_n : Nat) (t_kind : Int) (t_start : Int) (t_next : Int) (t_number : Int) (s1 : Int) : Option (Int × Int × Int × Int) :=
  gd (rI s1) (if s1 = 3 then (m_X7_step_b107 N t_faultKind p1_size p1_store p1_store_n s1 t_start t_next 0) else (if s1 = 4 then (m_X7_step_b107 N t_faultKind p1_size p1_store p1_store_n s1 t_start t_next 0) else (m_X7_step_b118 N t_faultKind p1_size p1_store p1_store_n s1 t_start N t_next 0)))
def m_X7_step_b47 (N : Nat) (t_faultKind : Int) (p1_size : Int) (p1_store : Int → Int) (p1_store_n : Nat) (t_kind : Int) (t_start : Int) (t_next : Int) (t_number : Int) : Option (Int × Int × Int × Int) :=
  gd (rI t_next) (gd (rI p1_size) (if p1_size ≤ t_next then (m_X7_step_b83 N t_faultKind p1_size p1_store p1_store_n t_kind t_next t_next t_number 0) else (gd ((0 : Int) ≤ t_next ∧ t_next < (p1_store_n : Int)) ((m_X7_kindOf N (p1_store t_next)).bind fun r5 => m_X7_step_b83 N t_faultKind p1_size p1_store p1_store_n t_kind t_next t_next t_number r5))))
def m_X7_step_b8 (N : Nat) (t_faultKind : Int) (p1_size : Int) (p1_store : Int → Int) (p1_store_n : Nat) (t_kind : Int) (t_start : Int) (t_number : Int) : Nat → Int → Option (Int × Int × Int × Int)
  | 0, _ => none
  | n + 1, t_next =>
    gd (rI t_next) (gd (rI p1_size) (if p1_size ≤ t_next then (m_X7_step_b47 N t_faultKind p1_size p1_store p1_store_n t_kind t_start t_next t_number) else (gd ((0 : Int) ≤ t_next ∧ t_next < (p1_store_n : Int)) ((m_X7_isBlank N (p1_store t_next)).bind fun r5 => gd (rI r5) (if r5 = 0 then (m_X7_step_b47 N t_faultKind p1_size p1_store p1_store_n t_kind t_start t_next t_number) else (m_X7_step_b8 N t_faultKind p1_size p1_store p1_store_n t_kind t_start t_number n (t_next + 1)))))))
def m_X7_step (N : Nat) (t_faultKind : Int) (p1_size : Int) (p1_store : Int → Int) (p1_store_n : Nat) (t_kind : Int) (t_start : Int) (t_next : Int) (t_number : Int) : Option (Int × Int × Int × Int) :=
  gd (rI t_faultKind) (if t_faultKind = 0 then (m_X7_step_b8 N t_faultKind p1_size p1_store p1_store_n t_kind t_start t_number N t_next) else (some (t_kind, t_start, t_next, t_number)))
def m_X7_isWord_b28 (N : Nat) (t_kind : Int) (t_start : Int) (t_next : Int) (p1_store : Int → Int) (p1_store_n : Nat) (x2 : Nat) : Nat → Int → Option (Int)
  | 0, _ => none
  | n + 1, y3 =>
    gd (x2 < 7) (gd (rI y3) (gd (rI (stLen x2)) (if (stLen x2) ≤ y3 then (some 1) else (gd ((0 : Int) ≤ (t_start + y3) ∧ (t_start + y3) < (p1_store_n : Int)) (gd ((0 : Int) ≤ y3 ∧ y3 < stLen x2) (gd (rI (p1_store (t_start + y3))) (gd (rI (stCh x2 y3)) (if (p1_store (t_start + y3)) = (stCh x2 y3) then (m_X7_isWord_b28 N t_kind t_start t_next p1_store p1_store_n x2 n (y3 + 1)) else (some 0)))))))))
def m_X7_isWord (N : Nat) (t_kind : Int) (t_start : Int) (t_next : Int) (p1_store : Int → Int) (p1_store_n : Nat) (x2 : Nat) : Option (Int) :=
  gd (rI t_kind) (if t_kind = 1 then (gd (x2 < 7) (gd (rI (t_next - t_start)) (gd (rI (stLen x2)) (if (t_next - t_start) = (stLen x2) then (m_X7_isWord_b28 N t_kind t_start t_next p1_store p1_store_n x2 N 0) else (some 0))))) else (some 0))
def m_X7_fail (N : Nat) (t_start : Int) (t_faultKind : Int) (t_faultPlace : Int) (x1 : Int) : Option (Int × Int) :=
  gd (rI t_faultKind) (if t_faultKind = 0 then (some (x1, t_start)) else (some (t_faultKind, t_faultPlace)))
def m_X7_wantNumber_b37 (N : Nat) (p1_size : Int) (p1_store : Int → Int) (p1_store_n : Nat) (x2 : Int) (x3 : Int) (t_faultKind : Int) (t_faultPlace : Int) (t_kind : Int) (t_start : Int) (t_next : Int) (t_number : Int) : Option (Int × Int × Int × Int × Int × Int × Int) :=
  (m_X7_fail N t_start t_faultKind t_faultPlace 2).bind fun r1 => some (t_number, r1.1, r1.2, t_kind, t_start, t_next, t_number)
def m_X7_wantNumber (N : Nat) (p1_size : Int) (p1_store : Int → Int) (p1_store_n : Nat) (t_faultKind : Int) (t_faultPlace : Int) (t_kind : Int) (t_start : Int) (t_next : Int) (t_number : Int) (x2 : Int) (x3 : Int) : Option (Int × Int × Int × Int × Int × Int × Int) :=
  (m_X7_step N t_faultKind p1_size p1_store p1_store_n t_kind t_start t_next t_number).bind fun r1 => gd (rI r1.1) (if r1.1 = 2 then (gd (rI r1.2.2.2) (gd (rI x2) (if r1.2.2.2 < x2 then (m_X7_wantNumber_b37 N p1_size p1_store p1_store_n x2 x3 t_faultKind t_faultPlace r1.1 r1.2.1 r1.2.2.1 r1.2.2.2) else (gd (rI x3) (if r1.2.2.2 ≤ x3 then (some (r1.2.2.2, t_faultKind, t_faultPlace, r1.1, r1.2.1, r1.2.2.1, r1.2.2.2)) else (m_X7_wantNumber_b37 N p1_size p1_store p1_store_n x2 x3 t_faultKind t_faultPlace r1.1 r1.2.1 r1.2.2.1 r1.2.2.2)))))) else ((m_X7_fail N r1.2.1 t_faultKind t_faultPlace 1).bind fun r9 => some (r1.2.2.2, r9.1, r9.2, r1.1, r1.2.1, r1.2.2.1, r1.2.2.2)))
def m_X7_isTold_b2 (N : Nat) (t_ats : Int) (t_score : Int → Int) (x1 : Int) : Nat → Int → Option (Int)
  | 0, _ => none
  | n + 1, y2 =>
    gd (rI y2) (gd (rI t_ats) (if t_ats ≤ y2 then (some 0) else (gd ((0 : Int) ≤ y2 ∧ y2 < 60) (gd (rI (t_score y2)) (gd (rI x1) (if (t_score y2) = x1 then (some 1) else (m_X7_isTold_b2 N t_ats t_score x1 n (y2 + 1))))))))
def m_X7_isTold (N : Nat) (t_ats : Int) (t_score : Int → Int) (x1 : Int) : Option (Int) :=
  m_X7_isTold_b2 N t_ats t_score x1 N 0
def m_X7_wantWord (N : Nat) (p1_size : Int) (p1_store : Int → Int) (p1_store_n : Nat) (t_faultKind : Int) (t_faultPlace : Int) (t_kind : Int) (t_start : Int) (t_next : Int) (t_number : Int) (x2 : Nat) : Option (Int × Int × Int × Int × Int × Int) :=
  (m_X7_step N t_faultKind p1_size p1_store p1_store_n t_kind t_start t_next t_number).bind fun r1 => (m_X7_isWord N r1.1 r1.2.1 r1.2.2.1 p1_store p1_store_n x2).bind fun r2 => gd (rI r2) (if r2 = 0 then ((m_X7_fail N r1.2.1 t_faultKind t_faultPlace 1).bind fun r5 => some (r5.1, r5.2, r1.1, r1.2.1, r1.2.2.1, r1.2.2.2)) else (some (t_faultKind, t_faultPlace, r1.1, r1.2.1, r1.2.2.1, r1.2.2.2)))
def m_X7_readAt_b149 (N : Nat) (p1_size : Int) (p1_store : Int → Int) (p1_store_n : Nat) (t_ats : Int) (t_faultKind : Int) (t_faultPlace : Int) (t_kind : Int) (t_start : Int) (t_next : Int) (t_number : Int) (t_score : Int → Int) (t_good : Int → Int) (t_bad : Int → Int) (t_open : Int → Int) : Option (Int × Int × Int × Int × Int × Int × Int × (Int → Int) × (Int → Int) × (Int → Int) × (Int → Int)) :=
  some (t_ats + 1, t_faultKind, t_faultPlace, t_kind, t_start, t_next, t_number, t_score, t_good, t_bad, t_open)
def m_X7_readAt_b54 (N : Nat) (p1_size : Int) (p1_store : Int → Int) (p1_store_n : Nat) (t_ats : Int) (t_faultKind : Int) (t_faultPlace : Int) (t_kind : Int) (t_start : Int) (t_next : Int) (t_number : Int) (t_score : Int → Int) (t_good : Int → Int) (t_bad : Int → Int) (t_open : Int → Int) : Option (Int × Int × Int × Int × Int × Int × Int × (Int → Int) × (Int → Int) × (Int → Int) × (Int → Int)) :=
  (m_X7_wantWord N p1_size p1_store p1_store_n t_faultKind t_faultPlace t_kind t_start t_next t_number 4).bind fun r1 => (m_X7_wantNumber N p1_size p1_store p1_store_n r1.1 r1.2.1 r1.2.2.1 r1.2.2.2.1 r1.2.2.2.2.1 r1.2.2.2.2.2 0 99).bind fun r2 => gd ((0 : Int) ≤ t_ats ∧ t_ats < 60) ((m_X7_wantWord N p1_size p1_store p1_store_n r2.2.1 r2.2.2.1 r2.2.2.2.1 r2.2.2.2.2.1 r2.2.2.2.2.2.1 r2.2.2.2.2.2.2 5).bind fun r4 => (m_X7_wantNumber N p1_size p1_store p1_store_n r4.1 r4.2.1 r4.2.2.1 r4.2.2.2.1 r4.2.2.2.2.1 r4.2.2.2.2.2 0 99).bind fun r5 => (m_X7_step N r5.2.1 p1_size p1_store p1_store_n r5.2.2.2.1 r5.2.2.2.2.1 r5.2.2.2.2.2.1 r5.2.2.2.2.2.2).bind fun r6 => (m_X7_isWord N r6.1 r6.2.1 r6.2.2.1 p1_store p1_store_n 6).bind fun r7 => gd (rI r7) (if r7 = 0 then (m_X7_readAt_b149 N p1_size p1_store p1_store_n t_ats r5.2.1 r5.2.2.1 r6.1 r6.2.1 r6.2.2.1 r6.2.2.2 t_score (uP t_good t_ats r2.1) (uP t_bad t_ats r5.1) (uP t_open t_ats 0)) else ((m_X7_wantNumber N p1_size p1_store p1_store_n r5.2.1 r5.2.2.1 r6.1 r6.2.1 r6.2.2.1 r6.2.2.2 0 99).bind fun r10 => (m_X7_step N r10.2.1 p1_size p1_store p1_store_n r10.2.2.2.1 r10.2.2.2.2.1 r10.2.2.2.2.2.1 r10.2.2.2.2.2.2).bind fun r11 => m_X7_readAt_b149 N p1_size p1_store p1_store_n t_ats r10.2.1 r10.2.2.1 r11.1 r11.2.1 r11.2.2.1 r11.2.2.2 t_score (uP t_good t_ats r2.1) (uP t_bad t_ats r5.1) (uP (uP t_open t_ats 0) t_ats r10.1))))
def m_X7_readAt (N : Nat) (p1_size : Int) (p1_store : Int → Int) (p1_store_n : Nat) (t_ats : Int) (t_faultKind : Int) (t_faultPlace : Int) (t_kind : Int) (t_start : Int) (t_next : Int) (t_number : Int) (t_score : Int → Int) (t_good : Int → Int) (t_bad : Int → Int) (t_open : Int → Int) : Option (Int × Int × Int × Int × Int × Int × Int × (Int → Int) × (Int → Int) × (Int → Int) × (Int → Int)) :=
  gd (rI t_ats) (if t_ats < 60 then ((m_X7_wantNumber N p1_size p1_store p1_store_n t_faultKind t_faultPlace t_kind t_start t_next t_number 0 999).bind fun r3 => gd ((0 : Int) ≤ t_ats ∧ t_ats < 60) ((m_X7_isTold N t_ats (uP t_score t_ats r3.1) ((uP t_score t_ats r3.1) t_ats)).bind fun r5 => gd (rI r5) (if r5 = 0 then (m_X7_readAt_b54 N p1_size p1_store p1_store_n t_ats r3.2.1 r3.2.2.1 r3.2.2.2.1 r3.2.2.2.2.1 r3.2.2.2.2.2.1 r3.2.2.2.2.2.2 (uP t_score t_ats r3.1) t_good t_bad t_open) else ((m_X7_fail N r3.2.2.2.2.1 r3.2.1 r3.2.2.1 3).bind fun r8 => m_X7_readAt_b54 N p1_size p1_store p1_store_n t_ats r8.1 r8.2 r3.2.2.2.1 r3.2.2.2.2.1 r3.2.2.2.2.2.1 r3.2.2.2.2.2.2 (uP t_score t_ats r3.1) t_good t_bad t_open)))) else ((m_X7_fail N t_start t_faultKind t_faultPlace 4).bind fun r9 => some (t_ats, r9.1, r9.2, t_kind, t_start, t_next, t_number, t_score, t_good, t_bad, t_open)))
def m_X7_tellOnce_b14 (N : Nat) (t_start : Int) (x1 : Int) (t_faultKind : Int) (t_faultPlace : Int) (t_toldLines : Int) : Option (Int × Int × Int) :=
  some (t_faultKind, t_faultPlace, iOr t_toldLines x1)
def m_X7_tellOnce (N : Nat) (t_start : Int) (t_faultKind : Int) (t_faultPlace : Int) (t_toldLines : Int) (x1 : Int) : Option (Int × Int × Int) :=
  gd (rI (iAnd t_toldLines x1)) (if (iAnd t_toldLines x1) = 0 then (m_X7_tellOnce_b14 N t_start x1 t_faultKind t_faultPlace t_toldLines) else ((m_X7_fail N t_start t_faultKind t_faultPlace 3).bind fun r3 => m_X7_tellOnce_b14 N t_start x1 r3.1 r3.2 t_toldLines))
def m_X7_readLine_b118 (N : Nat) (p1_size : Int) (p1_store : Int → Int) (p1_store_n : Nat) (x2 : Int) (t_ats : Int) (t_least : Int) (t_most : Int) (t_toldLines : Int) (t_score : Int → Int) (t_good : Int → Int) (t_bad : Int → Int) (t_open : Int → Int) : Nat → Int → Int → Int → Int → Int → Int → (Int → Int) → Int → Option (Int × Int × Int × Int × Int × Int × Int × Int × Int × Int × (Int → Int) × (Int → Int) × (Int → Int) × (Int → Int) × (Int → Int))
  | 0, _, _, _, _, _, _, _, _ => none
  | n + 1, t_faultKind, t_faultPlace, t_kind, t_start, t_next, t_number, t_costs, y3 =>
    gd (rI y3) (gd (rI (3 : Int)) (if (3 : Int) ≤ y3 then ((m_X7_step N t_faultKind p1_size p1_store p1_store_n t_kind t_start t_next t_number).bind fun r4 => some (t_ats, t_least, t_most, t_faultKind, t_faultPlace, t_toldLines, r4.1, r4.2.1, r4.2.2.1, r4.2.2.2, t_score, t_good, t_bad, t_open, t_costs)) else ((m_X7_wantNumber N p1_size p1_store p1_store_n t_faultKind t_faultPlace t_kind t_start t_next t_number 0 999).bind fun r5 => gd ((0 : Int) ≤ y3 ∧ y3 < 3) (m_X7_readLine_b118 N p1_size p1_store p1_store_n x2 t_ats t_least t_most t_toldLines t_score t_good t_bad t_open n r5.2.1 r5.2.2.1 r5.2.2.2.1 r5.2.2.2.2.1 r5.2.2.2.2.2.1 r5.2.2.2.2.2.2 (uP t_costs y3 r5.1) (y3 + 1)))))
def m_X7_readLine_b156 (N : Nat) (p1_size : Int) (p1_store : Int → Int) (p1_store_n : Nat) (x2 : Int) (t_ats : Int) (t_least : Int) (t_most : Int) (t_faultKind : Int) (t_faultPlace : Int) (t_toldLines : Int) (t_kind : Int) (t_start : Int) (t_next : Int) (t_number : Int) (t_score : Int → Int) (t_good : Int → Int) (t_bad : Int → Int) (t_open : Int → Int) (t_costs : Int → Int) : Option (Int × Int × Int × Int × Int × Int × Int × Int × Int × Int × (Int → Int) × (Int → Int) × (Int → Int) × (Int → Int) × (Int → Int)) :=
  (m_X7_fail N t_start t_faultKind t_faultPlace 1).bind fun r1 => some (t_ats, t_least, t_most, r1.1, r1.2, t_toldLines, t_kind, t_start, t_next, t_number, t_score, t_good, t_bad, t_open, t_costs)
def m_X7_readLine_b97 (N : Nat) (p1_size : Int) (p1_store : Int → Int) (p1_store_n : Nat) (x2 : Int) (t_ats : Int) (t_least : Int) (t_most : Int) (t_faultKind : Int) (t_faultPlace : Int) (t_toldLines : Int) (t_kind : Int) (t_start : Int) (t_next : Int) (t_number : Int) (t_score : Int → Int) (t_good : Int → Int) (t_bad : Int → Int) (t_open : Int → Int) (t_costs : Int → Int) : Option (Int × Int × Int × Int × Int × Int × Int × Int × Int × Int × (Int → Int) × (Int → Int) × (Int → Int) × (Int → Int) × (Int → Int)) :=
  gd (rI x2) (if x2 = 0 then ((m_X7_isWord N t_kind t_start t_next p1_store p1_store_n 3).bind fun r3 => gd (rI r3) (if r3 = 0 then (m_X7_readLine_b156 N p1_size p1_store p1_store_n x2 t_ats t_least t_most t_faultKind t_faultPlace t_toldLines t_kind t_start t_next t_number t_score t_good t_bad t_open t_costs) else ((m_X7_tellOnce N t_start t_faultKind t_faultPlace t_toldLines 4).bind fun r6 => m_X7_readLine_b118 N p1_size p1_store p1_store_n x2 t_ats t_least t_most r6.2.2 t_score t_good t_bad t_open N r6.1 r6.2.1 t_kind t_start t_next t_number t_costs 0))) else (m_X7_readLine_b156 N p1_size p1_store p1_store_n x2 t_ats t_least t_most t_faultKind t_faultPlace t_toldLines t_kind t_start t_next t_number t_score t_good t_bad t_open t_costs))
def m_X7_readLine_b58 (N : Nat) (p1_size : Int) (p1_store : Int → Int) (p1_store_n : Nat) (x2 : Int) (t_ats : Int) (t_least : Int) (t_most : Int) (t_faultKind : Int) (t_faultPlace : Int) (t_toldLines : Int) (t_kind : Int) (t_start : Int) (t_next : Int) (t_number : Int) (t_score : Int → Int) (t_good : Int → Int) (t_bad : Int → Int) (t_open : Int → Int) (t_costs : Int → Int) : Option (Int × Int × Int × Int × Int × Int × Int × Int × Int × Int × (Int → Int) × (Int → Int) × (Int → Int) × (Int → Int) × (Int → Int)) :=
  gd (rI x2) (if x2 = 0 then ((m_X7_isWord N t_kind t_start t_next p1_store p1_store_n 2).bind fun r3 => gd (rI r3) (if r3 = 0 then (m_X7_readLine_b97 N p1_size p1_store p1_store_n x2 t_ats t_least t_most t_faultKind t_faultPlace t_toldLines t_kind t_start t_next t_number t_score t_good t_bad t_open t_costs) else ((m_X7_tellOnce N t_start t_faultKind t_faultPlace t_toldLines 2).bind fun r6 => (m_X7_wantNumber N p1_size p1_store p1_store_n r6.1 r6.2.1 t_kind t_start t_next t_number 1 60).bind fun r7 => (m_X7_step N r7.2.1 p1_size p1_store p1_store_n r7.2.2.2.1 r7.2.2.2.2.1 r7.2.2.2.2.2.1 r7.2.2.2.2.2.2).bind fun r8 => some (t_ats, t_least, r7.1, r7.2.1, r7.2.2.1, r6.2.2, r8.1, r8.2.1, r8.2.2.1, r8.2.2.2, t_score, t_good, t_bad, t_open, t_costs)))) else (m_X7_readLine_b97 N p1_size p1_store p1_store_n x2 t_ats t_least t_most t_faultKind t_faultPlace t_toldLines t_kind t_start t_next t_number t_score t_good t_bad t_open t_costs))
