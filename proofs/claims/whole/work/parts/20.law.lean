/-! a republic C, as rows of ints: 0 months, 1 people, 2 dues, 3 from, 4 to, 5 votes told, 6 by, 7 to, 8 pays, 9 day, 10 month, 11 late, 12 has sun, 13 14 sun, 15 way, 16 week, 17 broken, 18 has rule -/
abbrev jw_C : Type := Nat → Nat → Int32
abbrev jw_A : Type := Nat → Int32
def jC (h : jx_H) (b : Nat) : jw_C := fun f i => match f with
  | 0 => jh_I h 66 0 b | 1 => jh_I h 67 0 b | 2 => jh_I h 68 0 b
  | 3 => jh_I h 70 0 (6 * b + i) | 4 => jh_I h 71 0 (6 * b + i) | 5 => jh_I h 72 0 (5 * b + i)
  | 6 => jh_I h 73 0 (12 * b + i) | 7 => jh_I h 74 0 (12 * b + i) | 8 => jh_I h 75 0 (12 * b + i) | 9 => jh_I h 76 0 (12 * b + i) | 10 => jh_I h 77 0 (12 * b + i) | 11 => jh_I h 84 0 (12 * b + i)
  | 12 => jh_I h 85 0 b | 13 => jh_I h 78 0 b | 14 => jh_I h 79 0 b | 15 => jh_I h 80 0 b | 16 => jh_I h 81 0 b | 17 => jh_I h 88 0 b
  | 18 => jh_I h 89 0 (6 * b + i) | _ => 0
abbrev jA (h : jx_H) : jw_A := jh_I h 98 0
def jw_rem (x y : Int32) : Int32 := x - x / y * y
def jw_in (v a b : Int32) : Prop := a ≤ v ∧ v ≤ b
def jw_month (C : jw_C) (a : jw_A) : Int32 := jw_rem (a 0) (C 0 0)
def jw_sunU (C : jw_C) : Int32 := if C 12 0 = 0 then 30 * C 0 0 else C 13 0
def jw_sunL (C : jw_C) : Int32 := if C 12 0 = 0 then 1 else C 14 0
def jw_dL (C : jw_C) : Int32 := jw_sunL C * C 0 0
def jw_dU (C : jw_C) (days were : Int32) : Int32 := days * jw_dL C - jw_sunU C * were
def jw_down (a b : Int32) : Int32 := if a < 0 then -((b - 1 - a) / b) else a / b
def jw_forg (a : jw_A) (d : Int32) : Prop := (a 36 >>> (d &&& 31)) &&& 1 = 1
def jw_paid (C : jw_C) (d : Nat) (l : Int32) : Int32 := if l < C 9 d then (if C 11 d = 0 then 0 else l) else C 9 d
theorem jc_zb {P : Prop} [Decidable P] : narrow .boolean (.int (if P then 1 else 0)) = .int (if P then 1 else 0) := by split <;> rfl
theorem jw_rem_toInt {x y : Int32} (hy : y ≠ 0) : (jw_rem x y).toInt = x.toInt.tmod y.toInt := by
  have hy0 : y.toInt ≠ 0 := by
    intro h; apply hy; exact Int32.toInt_inj.mp h
  have h1 : -2147483648 ≤ x.toInt := Int32.le_toInt x
  have h2 : x.toInt < 2147483648 := Int32.toInt_lt x
  have h3 : -2147483648 ≤ y.toInt := Int32.le_toInt y
  have h4 : y.toInt < 2147483648 := Int32.toInt_lt y
  unfold jw_rem
  rw [Int32.toInt_sub, Int32.toInt_mul, Int32.toInt_div]
  rw [Int.bmod_mul_bmod, Int.sub_bmod_bmod]
  have e : x.toInt - x.toInt.tdiv y.toInt * y.toInt = x.toInt.tmod y.toInt := by
    rw [Int.tmod_def, Int.mul_comm]
  rw [e]
  have h5 : (x.toInt.tmod y.toInt).natAbs < y.toInt.natAbs := by
    rw [Int.natAbs_tmod]; exact Nat.mod_lt _ (by omega)
  apply Int.bmod_eq_of_le <;> omega
theorem jw_rem_lt {x y : Int32} (hy : y ≠ 0) : (jw_rem x y).toInt.natAbs < y.toInt.natAbs := by
  rw [jw_rem_toInt hy]
  have hy0 : y.toInt ≠ 0 := by
    intro h; apply hy; exact Int32.toInt_inj.mp h
  have := Int.natAbs_tmod x.toInt y.toInt
  rw [this]
  exact Nat.mod_lt _ (by omega)
def jw_gcd (x y : Int32) : Int32 := if h : y = 0 then x else jw_gcd y (jw_rem x y)
termination_by y.toInt.natAbs
decreasing_by exact jw_rem_lt h
theorem jq_g {P : Prop} [Decidable P] {a b c : Int32} {F : Int32 → Int32} {Q : Option jx_V → jx_H → Prop} {h : jx_H} (hQ : Q (some (jv_i (F (if P then a else b)))) h) (e : (if P then a else b) = c) : Q (some (jv_i (F c))) h := by rw [e] at hQ; exact hQ
def jw_two (c a b : Int32) : Int32 :=
  if c.toInt = 37 then (if b = 0 then 0 else jw_rem a b) else if c.toInt = 38 then (if a = 0 then 0 else if b = 0 then 0 else 1) else if c.toInt = 42 then a * b else if c.toInt = 43 then a + b else if c.toInt = 45 then a - b else if c.toInt = 47 then (if b = 0 then 0 else a / b)
  else if c.toInt = 60 then (if b ≤ a then 0 else 1) else if c.toInt = 61 then (if a = b then 1 else 0) else if c.toInt = 62 then (if a ≤ b then 0 else 1) else (if a = 0 then (if b = 0 then 0 else 1) else 1)
/-- what a rule asks for: days, gets, owes, drift, have -/
def jw_asked (C : jw_C) (a : jw_A) (E : Nat → Int32) (c n : Int32) : Int32 :=
  if c.toInt = 100 then E 0 else if c.toInt = 102 then E 3 else if c.toInt = 103 then E 1 else if c.toInt = 104 then E 4 else if c.toInt = 109 then jw_month C a else if c.toInt = 111 then E 2 else if c.toInt = 121 then a 0 / C 0 0 else n
