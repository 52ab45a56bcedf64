/-! the model's heap with its scratch rows replaced -/
def jk_s (a : Nat) : Bool := a == 11 || a == 97 || a == 99 || a == 100 || a == 101 || a == 102 || a == 104 || a == 105 || a == 107 || a == 108 || a == 109 || a == 110 || a == 111 || a == 112 || a == 118 || a == 119 || a == 120
def jS (h : jx_H) (S : Nat → Nat → Int32) : jx_H := (fun a b => if jk_s a = true ∧ b = 0 then S a else h.1 a b, h.2)
theorem jS_u {h : jx_H} {S : Nat → Nat → Int32} {a : Nat} {f : Nat → Int32} (ha : jk_s a = true) : ju_I (jS h S) a 0 f = jS h (fun k => if k = a then f else S k) := by
  unfold ju_I jS
  refine congrArg (·, h.2) ?_
  funext x y
  dsimp only
  by_cases e : x = a ∧ y = 0
  · rw [if_pos e, if_pos ⟨by rw [e.1]; exact ha, e.2⟩, if_pos e.1]
  · rw [if_neg e]
    by_cases e2 : jk_s x = true ∧ y = 0
    · rw [if_pos e2, if_pos e2, if_neg (fun z => e ⟨z, e2.2⟩)]
    · rw [if_neg e2, if_neg e2]
theorem jS_self (h : jx_H) : jS h (fun a => jh_I h a 0) = h := by
  unfold jS jh_I
  refine Prod.ext ?_ rfl
  funext x y
  dsimp only
  split
  · rename_i e; rw [e.2]
  · rfl
theorem jS_S (h : jx_H) (S S' : Nat → Nat → Int32) : jS (jS h S) S' = jS h S' := by
  unfold jS
  refine congrArg (·, h.2) ?_
  funext x y
  dsimp only
  split <;> rfl
theorem jS_11 (h : jx_H) (S : Nat → Nat → Int32) (f : Nat → Int32) : ju_I (jS h S) 11 0 f = jS h (fun k => if k = 11 then f else S k) := jS_u rfl
theorem jS_r11 (h : jx_H) (S : Nat → Nat → Int32) : jh_I (jS h S) 11 0 = S 11 := rfl
theorem jS_97 (h : jx_H) (S : Nat → Nat → Int32) (f : Nat → Int32) : ju_I (jS h S) 97 0 f = jS h (fun k => if k = 97 then f else S k) := jS_u rfl
theorem jS_r97 (h : jx_H) (S : Nat → Nat → Int32) : jh_I (jS h S) 97 0 = S 97 := rfl
theorem jS_99 (h : jx_H) (S : Nat → Nat → Int32) (f : Nat → Int32) : ju_I (jS h S) 99 0 f = jS h (fun k => if k = 99 then f else S k) := jS_u rfl
theorem jS_r99 (h : jx_H) (S : Nat → Nat → Int32) : jh_I (jS h S) 99 0 = S 99 := rfl
theorem jS_100 (h : jx_H) (S : Nat → Nat → Int32) (f : Nat → Int32) : ju_I (jS h S) 100 0 f = jS h (fun k => if k = 100 then f else S k) := jS_u rfl
theorem jS_r100 (h : jx_H) (S : Nat → Nat → Int32) : jh_I (jS h S) 100 0 = S 100 := rfl
theorem jS_101 (h : jx_H) (S : Nat → Nat → Int32) (f : Nat → Int32) : ju_I (jS h S) 101 0 f = jS h (fun k => if k = 101 then f else S k) := jS_u rfl
theorem jS_r101 (h : jx_H) (S : Nat → Nat → Int32) : jh_I (jS h S) 101 0 = S 101 := rfl
theorem jS_102 (h : jx_H) (S : Nat → Nat → Int32) (f : Nat → Int32) : ju_I (jS h S) 102 0 f = jS h (fun k => if k = 102 then f else S k) := jS_u rfl
theorem jS_r102 (h : jx_H) (S : Nat → Nat → Int32) : jh_I (jS h S) 102 0 = S 102 := rfl
theorem jS_104 (h : jx_H) (S : Nat → Nat → Int32) (f : Nat → Int32) : ju_I (jS h S) 104 0 f = jS h (fun k => if k = 104 then f else S k) := jS_u rfl
theorem jS_r104 (h : jx_H) (S : Nat → Nat → Int32) : jh_I (jS h S) 104 0 = S 104 := rfl
theorem jS_105 (h : jx_H) (S : Nat → Nat → Int32) (f : Nat → Int32) : ju_I (jS h S) 105 0 f = jS h (fun k => if k = 105 then f else S k) := jS_u rfl
theorem jS_r105 (h : jx_H) (S : Nat → Nat → Int32) : jh_I (jS h S) 105 0 = S 105 := rfl
theorem jS_107 (h : jx_H) (S : Nat → Nat → Int32) (f : Nat → Int32) : ju_I (jS h S) 107 0 f = jS h (fun k => if k = 107 then f else S k) := jS_u rfl
theorem jS_r107 (h : jx_H) (S : Nat → Nat → Int32) : jh_I (jS h S) 107 0 = S 107 := rfl
theorem jS_108 (h : jx_H) (S : Nat → Nat → Int32) (f : Nat → Int32) : ju_I (jS h S) 108 0 f = jS h (fun k => if k = 108 then f else S k) := jS_u rfl
theorem jS_r108 (h : jx_H) (S : Nat → Nat → Int32) : jh_I (jS h S) 108 0 = S 108 := rfl
theorem jS_109 (h : jx_H) (S : Nat → Nat → Int32) (f : Nat → Int32) : ju_I (jS h S) 109 0 f = jS h (fun k => if k = 109 then f else S k) := jS_u rfl
theorem jS_r109 (h : jx_H) (S : Nat → Nat → Int32) : jh_I (jS h S) 109 0 = S 109 := rfl
theorem jS_110 (h : jx_H) (S : Nat → Nat → Int32) (f : Nat → Int32) : ju_I (jS h S) 110 0 f = jS h (fun k => if k = 110 then f else S k) := jS_u rfl
theorem jS_r110 (h : jx_H) (S : Nat → Nat → Int32) : jh_I (jS h S) 110 0 = S 110 := rfl
theorem jS_111 (h : jx_H) (S : Nat → Nat → Int32) (f : Nat → Int32) : ju_I (jS h S) 111 0 f = jS h (fun k => if k = 111 then f else S k) := jS_u rfl
theorem jS_r111 (h : jx_H) (S : Nat → Nat → Int32) : jh_I (jS h S) 111 0 = S 111 := rfl
theorem jS_112 (h : jx_H) (S : Nat → Nat → Int32) (f : Nat → Int32) : ju_I (jS h S) 112 0 f = jS h (fun k => if k = 112 then f else S k) := jS_u rfl
theorem jS_r112 (h : jx_H) (S : Nat → Nat → Int32) : jh_I (jS h S) 112 0 = S 112 := rfl
theorem jS_118 (h : jx_H) (S : Nat → Nat → Int32) (f : Nat → Int32) : ju_I (jS h S) 118 0 f = jS h (fun k => if k = 118 then f else S k) := jS_u rfl
theorem jS_r118 (h : jx_H) (S : Nat → Nat → Int32) : jh_I (jS h S) 118 0 = S 118 := rfl
theorem jS_119 (h : jx_H) (S : Nat → Nat → Int32) (f : Nat → Int32) : ju_I (jS h S) 119 0 f = jS h (fun k => if k = 119 then f else S k) := jS_u rfl
theorem jS_r119 (h : jx_H) (S : Nat → Nat → Int32) : jh_I (jS h S) 119 0 = S 119 := rfl
theorem jS_120 (h : jx_H) (S : Nat → Nat → Int32) (f : Nat → Int32) : ju_I (jS h S) 120 0 f = jS h (fun k => if k = 120 then f else S k) := jS_u rfl
theorem jS_r120 (h : jx_H) (S : Nat → Nat → Int32) : jh_I (jS h S) 120 0 = S 120 := rfl
theorem jc_and1 {P : Prop} [Decidable P] : (if P then (1 : Int32) else 0) &&& 1 = if P then 1 else 0 := by split <;> rfl
def jw_m0 (f t has : Int32) (P : Nat → Int32) (l : Nat) : Int32 := if f ≤ nI l ∧ nI l ≤ t then (if has = 0 then 1 else if P l = 0 then 0 else 1) else 0
def jw_some (M : Nat → Int32) : Nat → Int32
  | 0 => 0
  | n + 1 => if jw_some M n = 0 then (if M n = 0 then 0 else 1) else 1
def jw_may (f t has : Int32) (P : Nat → Int32) (l : Nat) : Int32 := if f ≤ nI l ∧ nI l ≤ t then (if jw_some (jw_m0 f t has P) 32 = 0 then 1 else jw_m0 f t has P l) else 0
def jw_lenv (C : jw_C) (a : jw_A) (l : Int32) : Nat → Int32
  | 0 => l
  | 3 => jw_down (jw_dU C (a 1 + l) (a 0 + 1)) (jw_dL C)
  | _ => 0
def jw_law (h : jx_H) (b l : Nat) : Int32 := jw_val h b 5 (jw_asked (jC h b) (jA h) (jw_lenv (jC h b) (jA h) (nI l)))
