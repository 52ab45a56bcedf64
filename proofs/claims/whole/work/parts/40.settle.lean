theorem jz_len {np nm : Nat} {a : jw_A} (hA : jz_A np nm a) {V : Nat → Nat} (hV : ∀ p, p < np → V p < 32) : ∀ {p : Nat}, p ≤ np → ∃ s t : Nat, jw_wsum (fun p => a (7 + p)) p = nI s ∧ s ≤ 9 * p ∧ jw_wlen V (fun p => a (7 + p)) p = nI t ∧ t ≤ 31 * s
  | 0, _ => ⟨0, 0, rfl, by omega, rfl, by omega⟩
  | p + 1, h => by
    obtain ⟨s, t, e, h1, e2, h2⟩ := jz_len hA hV (p := p) (by omega)
    obtain ⟨v, e3, h3⟩ := hA.2 p (by omega)
    have hv := hV p (by omega)
    have hm : v * V p ≤ v * 31 := Nat.mul_le_mul_left v (by omega)
    exact ⟨s + v, t + v * V p, by rw [jw_wsum, e, e3, nI_add], by omega, by rw [jw_wlen, e2, e3, pk_mul, nI_add], by omega⟩
theorem jw_pick_in {way all : Int32} {T : Nat → Int32} : ∀ {n l : Nat} {u : Int32} {best : Nat}, l + n ≤ 32 → best < 32 → jw_pick way all T n l u best < 32
  | 0, _, _, _, _, h => h
  | n + 1, l, u, best, h1, h2 => by
    rw [jw_pick]
    split
    · omega
    · exact jw_pick_in (by omega) (by split <;> omega)
theorem jw_lm_in {M : Nat → Int32} : ∀ {n l : Nat}, (∃ j, l ≤ j ∧ j < l + n ∧ ¬ M j = 0) → jw_lm M n l < l + n ∧ ¬ M (jw_lm M n l) = 0
  | 0, l, ⟨j, h1, h2, _⟩ => by omega
  | n + 1, l, ⟨j, h1, h2, h3⟩ => by
    rw [jw_lm]
    by_cases e : M l = 0
    · rw [if_pos e]
      have := jw_lm_in (M := M) (n := n) (l := l + 1) ⟨j, by
        rcases Nat.eq_or_lt_of_le h1 with e2 | e2
        · rw [e2] at e; exact absurd e h3
        · omega, by omega, h3⟩
      exact ⟨by omega, this.2⟩
    · rw [if_neg e]; exact ⟨by omega, e⟩
theorem jw_count_in {np nm : Nat} {a : jw_A} (hA : jz_A np nm a) (hnp : np ≤ 5) {V : Nat → Nat} {M : Nat → Int32} {way : Int32} (hV : ∀ p, p < np → V p < 32) (hex : ∃ j, j < 32 ∧ ¬ M j = 0) : ∃ v : Nat, jw_count M way np V (fun p => a (7 + p)) = nI v ∧ v ≤ 31 := by
  unfold jw_count
  obtain ⟨s, t, e, h1, e2, h2⟩ := jz_len hA hV (Nat.le_refl _)
  split
  · obtain ⟨j, g1, g2⟩ := hex
    have := (jw_lm_in (M := M) (n := 32) (l := 0) ⟨j, by omega, by omega, g2⟩).1
    exact ⟨_, rfl, by omega⟩
  · rename_i hz
    split
    · rw [e, e2, jn_div (by omega) (by omega)]
      refine ⟨_, rfl, ?_⟩
      have hs : 0 < s := by
        rcases Nat.eq_zero_or_pos s with q | q
        · rw [e, q] at hz; exact absurd rfl hz
        · exact q
      exact Nat.le_of_lt_succ ((Nat.div_lt_iff_lt_mul hs).mpr (by omega))
    · have := jw_pick_in (way := way) (all := jw_wsum (fun p => a (7 + p)) np) (T := jw_tally V (fun p => a (7 + p)) np) (n := 32) (l := 0) (u := 0) (best := 0) (by omega) (by omega)
      exact ⟨_, rfl, by omega⟩
theorem jw_counted_in {h : jx_H} {b : Nat} (hw : jz_W h b) (hm : ¬ jC h b 0 0 = 0) : ∃ v : Nat, jw_counted h b = nI v ∧ v ≤ 31 :=
  jw_count_in hw.2.2.2 hw.2.2.1.2.1.2 (fun p _ => (jw_V_eq hw hm).2.1) (jw_mayb_ex hw hm)
set_option maxHeartbeats 800000 in
set_option maxRecDepth 100000 in
theorem ev_Poll_resultFor {d : Nat} {h : jx_H} {Q : Option jx_V → jx_H → Prop} {hm : jx_H} {b c r kc : Nat} {S : Nat → Nat → Int32} (hw : jz_W hm b) (hA : jy_A h c r (jA hm)) (hR : jy_R h r hm b) (hmo : ¬ jC hm b 0 0 = 0) (k : ∀ S' : Nat → Nat → Int32, Q (some (jv_i (jw_counted hm b))) (jP h S' (c + 1)))  : jx_Ev jm_Poll_resultFor (d + 5) 0 0 false 0 [jv_r 5 0, jv_r 1 c] (jP h S kc) Q := by
  show jx_W (jm_Poll_resultFor, d + 5, 0, 0, false, 0, _) Q 0 0 0 [some (jv_r 5 0), some (jv_r 1 c)] [] _
  refine jr_aload rfl rfl ?_
  refine jr_aload rfl rfl ?_
  refine jr_cv1 (mc' := 0) (ms' := 0) rfl jm_Poll_open_n jm_Poll_open_f rfl rfl rfl rfl rfl rfl rfl (Nat.zero_le _) (Nat.zero_le _) ?_
  refine ev_Poll_open (S := S) hw hA hR hmo (fun S1 hP1 hM1 => ?_)
  refine jr_aload rfl rfl ?_
  refine jr_aload rfl rfl ?_
  refine jr_getR rfl rfl rfl rfl (Or.inl rfl) ?_
  refine jr_cv1 (mc' := 0) (ms' := 0) rfl jm_Poll_takeBallots_n jm_Poll_takeBallots_f rfl rfl rfl rfl rfl rfl rfl (Nat.zero_le _) (Nat.zero_le _) ?_
  refine ev_take39 hw hA hR hmo hP1 hM1 (fun S2 f2 hV2 => ?_)
  refine jr_aload rfl rfl ?_
  refine jr_aload rfl rfl ?_
  refine jr_getR rfl rfl rfl rfl (Or.inl rfl) ?_
  refine jr_cv1 (mc' := 0) (ms' := 0) rfl jm_Poll_outcome_n jm_Poll_outcome_f rfl rfl rfl rfl rfl rfl rfl (Nat.zero_le _) (Nat.zero_le _) ?_
  refine ev_outcome39 (V := jw_V hm b) hw hA hR hmo (show jy_Pm S2 hm b by unfold jy_Pm; rw [f2 5 (by decide) (by decide)]; exact hM1) (fun p hp => ⟨(hV2 p hp).trans (jw_V_eq hw hmo).1, (jw_V_eq hw hmo).2.1⟩) (fun S3 f3 => ?_)
  refine jr_iret rfl rfl (Nat.zero_le _) (Nat.zero_le _) ?_
  exact k S3

/-- what due d does to cell x, when a month mo of length l goes by -/
def jw_d1 (C : jw_C) (mo fg l : Int32) (d x : Nat) : Int32 :=
  if C 10 d = mo ∧ ¬ ((fg >>> (nI d &&& 31)) &&& 1 = 1) then
    (if jw_paid C d l = 0 then (if x = 24 + d then 1 else 0) else if x = 12 + d then 1 else if x = 2 + (C 6 d).toNatClampNeg then - C 8 d else if x = 2 + (C 7 d).toNatClampNeg then C 8 d else 0)
  else 0
def jw_del (C : jw_C) (mo fg l : Int32) : Nat → Nat → Int32
  | 0, _ => 0
  | d + 1, x => jw_del C mo fg l d x + jw_d1 C mo fg l d x
theorem jw_d1_n {C : jw_C} {mo fg l : Int32} {d x : Nat} (h : ¬ (C 10 d = mo ∧ ¬ ((fg >>> (nI d &&& 31)) &&& 1 = 1))) : jw_d1 C mo fg l d x = 0 := if_neg h
theorem jw_d1_l {C : jw_C} {mo fg l : Int32} {d x : Nat} (h : C 10 d = mo ∧ ¬ ((fg >>> (nI d &&& 31)) &&& 1 = 1)) (h2 : jw_paid C d l = 0) : jw_d1 C mo fg l d x = if x = 24 + d then 1 else 0 := by
  unfold jw_d1; rw [if_pos h, if_pos h2]
theorem jw_d1_p {C : jw_C} {mo fg l : Int32} {d x y z : Nat} (h : C 10 d = mo ∧ ¬ ((fg >>> (nI d &&& 31)) &&& 1 = 1)) (h2 : ¬ jw_paid C d l = 0) (hy : C 6 d = nI y) (hz : C 7 d = nI z) (hy5 : y < 5) (hz5 : z < 5) : jw_d1 C mo fg l d x = if x = 12 + d then 1 else if x = 2 + y then - C 8 d else if x = 2 + z then C 8 d else 0 := by
  unfold jw_d1; rw [if_pos h, if_neg h2, jn_1 hy (by omega), jn_1 hz (by omega)]
theorem jq_0 (t x : Int32) : x + t * (0 : Int32) = x := by rw [Int32.mul_zero, Int32.add_zero]
theorem jq_a (x t u v : Int32) : x + t * (u + v) = x + t * u + t * v := by rw [Int32.mul_add, Int32.add_assoc]
theorem jq_a0 (x t u : Int32) : x + t * (u + 0) = x + t * u := by rw [Int32.add_zero]
/-! the class's heap with calendar c's rows replaced -/
def jk_c (a : Nat) : Bool := a == 1 || a == 31 || a == 32 || a == 33 || a == 34 || a == 35 || a == 36
def jK (h : jx_H) (c : Nat) (T : Nat → Nat → Int32) (m : Nat) : jx_H := (fun a b => if jk_c a = true ∧ b = c then T a else h.1 a b, h.2.1, (fun a b => if a = 1 ∧ b = c then va_up (h.2.2.1 1 c) 0 m else h.2.2.1 a b), h.2.2.2)
theorem jPK_u {h : jx_H} {T S : Nat → Nat → Int32} {c m k a : Nat} {f : Nat → Int32} (ha : jk_c a = true) (hp : jk_p a = false) : ju_I (jP (jK h c T m) S k) a c f = jP (jK h c (fun x => if x = a then f else T x) m) S k := by
  unfold ju_I jP jK
  refine congrArg (·, _) ?_
  funext x y
  dsimp only
  by_cases e : x = a ∧ y = c
  · rw [if_pos e, if_neg (fun z => by rw [e.1, hp] at z; exact absurd z.1 (by decide)), if_pos ⟨by rw [e.1]; exact ha, e.2⟩, if_pos e.1]
  · rw [if_neg e]
    by_cases e2 : jk_p x = true ∧ y = 0
    · rw [if_pos e2, if_pos e2]
    · rw [if_neg e2, if_neg e2]
      by_cases e3 : jk_c x = true ∧ y = c
      · rw [if_pos e3, if_pos e3, if_neg (fun z => e ⟨z, e3.2⟩)]
      · rw [if_neg e3, if_neg e3]
theorem jPK_M {h : jx_H} {T S : Nat → Nat → Int32} {c m k v : Nat} : ju_M (jP (jK h c T m) S k) 1 c (va_up (jh_M (jP (jK h c T m) S k) 1 c) 0 v) = jP (jK h c T v) S k := by
  unfold ju_M jP jK jh_M
  refine congrArg (_, ·) (congrArg (_, ·) (congrArg (·, _) ?_))
  funext x y
  dsimp only
  by_cases e : x = 1 ∧ y = c
  · obtain ⟨rfl, rfl⟩ := e
    have q : ¬ ((1 : Nat) = 5 ∧ y = 0) := fun z => absurd z.1 (by decide)
    simp only [if_neg q, and_self, if_true]
    funext j
    unfold va_up
    split <;> rfl
  · rw [if_neg e]
    by_cases e2 : x = 5 ∧ y = 0
    · rw [if_pos e2, if_pos e2, if_neg (by omega), if_neg (by omega)]
    · rw [if_neg e2, if_neg e2, if_neg e, if_neg e]
theorem jK_self (h : jx_H) (c : Nat) : jK h c (fun a => jh_I h a c) (jh_M h 1 c 0) = h := by
  unfold jK jh_I jh_M
  refine Prod.ext ?_ (Prod.ext rfl (Prod.ext ?_ rfl))
  · funext x y
    dsimp only
    split
    · rename_i e; rw [e.2]
    · rfl
  · funext x y
    dsimp only
    split
    · rename_i e
      rw [e.1, e.2]
      funext j; unfold va_up; split
      · rename_i e; rw [e]
      · rfl
    · rfl
theorem jPK_1 (h : jx_H) (T S : Nat → Nat → Int32) (c m k : Nat) (f : Nat → Int32) : ju_I (jP (jK h c T m) S k) 1 c f = jP (jK h c (fun x => if x = 1 then f else T x) m) S k := jPK_u rfl rfl
theorem jPK_r1_0 (h : jx_H) (T S : Nat → Nat → Int32) (m k : Nat) : jh_I (jP (jK h 0 T m) S k) 1 0 = T 1 := rfl
theorem jPK_r1_4 (h : jx_H) (T S : Nat → Nat → Int32) (m k : Nat) : jh_I (jP (jK h 4 T m) S k) 1 4 = T 1 := rfl
theorem jPK_31 (h : jx_H) (T S : Nat → Nat → Int32) (c m k : Nat) (f : Nat → Int32) : ju_I (jP (jK h c T m) S k) 31 c f = jP (jK h c (fun x => if x = 31 then f else T x) m) S k := jPK_u rfl rfl
theorem jPK_r31_0 (h : jx_H) (T S : Nat → Nat → Int32) (m k : Nat) : jh_I (jP (jK h 0 T m) S k) 31 0 = T 31 := rfl
theorem jPK_r31_4 (h : jx_H) (T S : Nat → Nat → Int32) (m k : Nat) : jh_I (jP (jK h 4 T m) S k) 31 4 = T 31 := rfl
theorem jPK_32 (h : jx_H) (T S : Nat → Nat → Int32) (c m k : Nat) (f : Nat → Int32) : ju_I (jP (jK h c T m) S k) 32 c f = jP (jK h c (fun x => if x = 32 then f else T x) m) S k := jPK_u rfl rfl
theorem jPK_r32_0 (h : jx_H) (T S : Nat → Nat → Int32) (m k : Nat) : jh_I (jP (jK h 0 T m) S k) 32 0 = T 32 := rfl
theorem jPK_r32_4 (h : jx_H) (T S : Nat → Nat → Int32) (m k : Nat) : jh_I (jP (jK h 4 T m) S k) 32 4 = T 32 := rfl
theorem jPK_33 (h : jx_H) (T S : Nat → Nat → Int32) (c m k : Nat) (f : Nat → Int32) : ju_I (jP (jK h c T m) S k) 33 c f = jP (jK h c (fun x => if x = 33 then f else T x) m) S k := jPK_u rfl rfl
theorem jPK_r33_0 (h : jx_H) (T S : Nat → Nat → Int32) (m k : Nat) : jh_I (jP (jK h 0 T m) S k) 33 0 = T 33 := rfl
theorem jPK_r33_4 (h : jx_H) (T S : Nat → Nat → Int32) (m k : Nat) : jh_I (jP (jK h 4 T m) S k) 33 4 = T 33 := rfl
theorem jPK_34 (h : jx_H) (T S : Nat → Nat → Int32) (c m k : Nat) (f : Nat → Int32) : ju_I (jP (jK h c T m) S k) 34 c f = jP (jK h c (fun x => if x = 34 then f else T x) m) S k := jPK_u rfl rfl
theorem jPK_r34_0 (h : jx_H) (T S : Nat → Nat → Int32) (m k : Nat) : jh_I (jP (jK h 0 T m) S k) 34 0 = T 34 := rfl
theorem jPK_r34_4 (h : jx_H) (T S : Nat → Nat → Int32) (m k : Nat) : jh_I (jP (jK h 4 T m) S k) 34 4 = T 34 := rfl
theorem jPK_35 (h : jx_H) (T S : Nat → Nat → Int32) (c m k : Nat) (f : Nat → Int32) : ju_I (jP (jK h c T m) S k) 35 c f = jP (jK h c (fun x => if x = 35 then f else T x) m) S k := jPK_u rfl rfl
theorem jPK_r35_0 (h : jx_H) (T S : Nat → Nat → Int32) (m k : Nat) : jh_I (jP (jK h 0 T m) S k) 35 0 = T 35 := rfl
theorem jPK_r35_4 (h : jx_H) (T S : Nat → Nat → Int32) (m k : Nat) : jh_I (jP (jK h 4 T m) S k) 35 4 = T 35 := rfl
theorem jPK_36 (h : jx_H) (T S : Nat → Nat → Int32) (c m k : Nat) (f : Nat → Int32) : ju_I (jP (jK h c T m) S k) 36 c f = jP (jK h c (fun x => if x = 36 then f else T x) m) S k := jPK_u rfl rfl
theorem jPK_r36_0 (h : jx_H) (T S : Nat → Nat → Int32) (m k : Nat) : jh_I (jP (jK h 0 T m) S k) 36 0 = T 36 := rfl
theorem jPK_r36_4 (h : jx_H) (T S : Nat → Nat → Int32) (m k : Nat) : jh_I (jP (jK h 4 T m) S k) 36 4 = T 36 := rfl
