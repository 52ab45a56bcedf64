/-! ===== Int32 by its bits: bt x i ===== -/
def bt (x : Int32) (i : Nat) : Bool := x.toBitVec.getLsbD i
theorem b_ext {x y : Int32} (h : ∀ i, i < 32 → bt x i = bt y i) : x = y := Int32.toBitVec_inj.mp (BitVec.eq_of_getLsbD_eq (fun i hi => h i hi))
theorem b_or (x y : Int32) (i : Nat) : bt (x ||| y) i = (bt x i || bt y i) := by unfold bt; rw [Int32.toBitVec_or, BitVec.getLsbD_or]
theorem b_and (x y : Int32) (i : Nat) : bt (x &&& y) i = (bt x i && bt y i) := by unfold bt; rw [Int32.toBitVec_and, BitVec.getLsbD_and]
theorem b_xor (x y : Int32) (i : Nat) : bt (x ^^^ y) i = (bt x i ^^ bt y i) := by unfold bt; rw [Int32.toBitVec_xor, BitVec.getLsbD_xor]
theorem b_big {x : Int32} {i : Nat} (h : 32 ≤ i) : bt x i = false := BitVec.getLsbD_of_ge _ _ h
theorem b_255 (i : Nat) : bt 255 i = decide (i < 8) := by
  rcases Nat.lt_or_ge i 32 with h | h
  · exact (by decide +kernel : ∀ i, i < 32 → bt 255 i = decide (i < 8)) i h
  · rw [b_big h, decide_eq_false (by omega)]
theorem b_65535 (i : Nat) : bt 65535 i = decide (i < 16) := by
  rcases Nat.lt_or_ge i 32 with h | h
  · exact (by decide +kernel : ∀ i, i < 32 → bt 65535 i = decide (i < 16)) i h
  · rw [b_big h, decide_eq_false (by omega)]
theorem b_m1 : ∀ i, i < 32 → bt (-1) i = true := by decide +kernel
theorem b_0 (i : Nat) : bt 0 i = false := BitVec.getLsbD_zero
theorem s_l : ∀ n, n < 32 → ((nI n &&& 31).toBitVec.smod 32).toNat = n := by decide +kernel
theorem s_u : ∀ n, n < 32 → (((nI n).toUInt32 &&& Int32.toUInt32 31).toBitVec % 32).toNat = n := by decide +kernel
theorem b_shl (n : Nat) (hn : n < 32) (x : Int32) {i : Nat} (hi : i < 32) : bt (x <<< (nI n &&& 31)) i = (decide (n ≤ i) && bt x (i - n)) := by
  unfold bt
  rw [Int32.toBitVec_shiftLeft]
  show (x.toBitVec <<< ((nI n &&& 31).toBitVec.smod 32).toNat).getLsbD i = _
  rw [s_l n hn, BitVec.getLsbD_shiftLeft]
  rcases Nat.lt_or_ge i n with h | h
  · simp [h, Nat.not_le.mpr h]
  · simp [hi, h, Nat.not_lt.mpr h]
theorem b_ushr (n : Nat) (hn : n < 32) (x : Int32) (i : Nat) : bt ((x.toUInt32 >>> ((nI n).toUInt32 &&& Int32.toUInt32 31)).toInt32) i = bt x (n + i) := by
  show (x.toUInt32 >>> ((nI n).toUInt32 &&& Int32.toUInt32 31)).toBitVec.getLsbD i = x.toUInt32.toBitVec.getLsbD (n + i)
  rw [UInt32.toBitVec_shiftRight]
  show (x.toUInt32.toBitVec >>> (((nI n).toUInt32 &&& Int32.toUInt32 31).toBitVec % 32).toNat).getLsbD i = _
  rw [s_u n hn, BitVec.getLsbD_ushiftRight]
theorem b_sshr (n : Nat) (hn : n < 32) (x : Int32) {i : Nat} (hi : i < 32) : bt (x >>> (nI n &&& 31)) i = if n + i < 32 then bt x (n + i) else bt x 31 := by
  unfold bt
  rw [Int32.toBitVec_shiftRight]
  show (x.toBitVec.sshiftRight ((nI n &&& 31).toBitVec.smod 32).toNat).getLsbD i = _
  rw [s_l n hn, BitVec.getLsbD_sshiftRight, BitVec.msb_eq_getLsbD_last]
  simp [hi]
theorem b_shl8 (x : Int32) {i : Nat} (hi : i < 32) : bt (x <<< ((8 : Int32) &&& 31)) i = (decide (8 ≤ i) && bt x (i - 8)) := b_shl 8 (by omega) x hi
theorem b_shl16 (x : Int32) {i : Nat} (hi : i < 32) : bt (x <<< ((16 : Int32) &&& 31)) i = (decide (16 ≤ i) && bt x (i - 16)) := b_shl 16 (by omega) x hi
theorem b_shl24 (x : Int32) {i : Nat} (hi : i < 32) : bt (x <<< ((24 : Int32) &&& 31)) i = (decide (24 ≤ i) && bt x (i - 24)) := b_shl 24 (by omega) x hi
theorem b_sshr8 (x : Int32) {i : Nat} (hi : i < 32) : bt (x >>> ((8 : Int32) &&& 31)) i = if 8 + i < 32 then bt x (8 + i) else bt x 31 := b_sshr 8 (by omega) x hi
/-- a bit of the class's mask -/
def jy_u (m : Int32) (l : Nat) : Int32 := (m.toUInt32 >>> ((nI l).toUInt32 &&& Int32.toUInt32 31)).toInt32 &&& 1
theorem b_1 (i : Nat) : bt 1 i = decide (i = 0) := by
  rcases Nat.lt_or_ge i 32 with h | h
  · exact (by decide +kernel : ∀ i, i < 32 → bt 1 i = decide (i = 0)) i h
  · rw [b_big h, decide_eq_false (by omega)]
theorem b_a1 (x : Int32) : x &&& 1 = if bt x 0 = true then 1 else 0 := by
  apply b_ext
  intro i _
  rw [b_and, b_1]
  by_cases e : i = 0
  · subst e
    cases bt x 0 <;> rfl
  · rw [decide_eq_false e, Bool.and_false]
    split
    · rw [b_1, decide_eq_false e]
    · rw [b_0]
theorem jy_u_bt {m : Int32} {l : Nat} (hl : l < 32) : jy_u m l = if bt m l = true then 1 else 0 := by
  unfold jy_u
  rw [b_a1, b_ushr l hl m 0]
  rfl
theorem jy_s_bt {m : Int32} {l : Nat} (hl : l < 32) : (m >>> (nI l &&& 31)) &&& 1 = if bt m l = true then 1 else 0 := by
  have e : (if l + 0 < 32 then bt m (l + 0) else bt m 31) = bt m l := if_pos (by omega)
  rw [b_a1, b_sshr l hl m (by omega), e]
theorem b_one (l : Nat) (hl : l < 32) {j : Nat} (hj : j < 32) : bt ((1 : Int32) <<< (nI l &&& 31)) j = decide (j = l) := by
  rw [b_shl l hl 1 hj, b_1]
  by_cases e : j = l
  · subst e; simp
  · rw [decide_eq_false e]
    by_cases e2 : l ≤ j
    · rw [decide_eq_true e2, decide_eq_false (by omega)]; rfl
    · rw [decide_eq_false e2]; rfl
theorem b_or1 {m : Int32} {l j : Nat} (hl : l < 32) (hj : j < 32) : bt (m ||| (1 : Int32) <<< (nI l &&& 31)) j = (bt m j || decide (j = l)) := by rw [b_or, b_one l hl hj]
theorem b_ne0 {m : Int32} {l : Nat} (h : bt m l = true) : ¬ m = 0 := by
  intro z; rw [z, b_0] at h; cases h
theorem b_eq0 {m : Int32} (h : ∀ i, i < 32 → bt m i = false) : m = 0 := b_ext (fun i hi => by rw [h i hi, b_0])
/-! the class's rows beside the model's -/
abbrev jy_rn (hm : jx_H) (b w : Nat) : Nat := if jC hm b 18 w = 0 then 0 else jw_rn hm b w
def jy_due (h : jx_H) (r : Nat) (hm : jx_H) (b d : Nat) : Prop := jh_I h 2 (12 * r + d) 0 = jC hm b 6 d ∧ jh_I h 2 (12 * r + d) 1 = jC hm b 7 d ∧ jh_I h 2 (12 * r + d) 2 = jC hm b 8 d ∧ jh_I h 2 (12 * r + d) 3 = jC hm b 9 d ∧ jh_I h 2 (12 * r + d) 4 = jC hm b 10 d ∧ jh_I h 2 (12 * r + d) 5 = jC hm b 11 d
def jy_code (h : jx_H) (r : Nat) (hm : jx_H) (b w : Nat) : Prop := ∃ s : Nat, jh_I h 26 r w = nI s ∧ jh_I h 27 r w = nI (s + jy_rn hm b w) ∧ s + jy_rn hm b w ≤ 1700 ∧
  (¬ jC hm b 18 w = 0 → (∀ q, q < jw_rn hm b w → jt_tr (jh_I h 25 r (s + q)) (jh_I hm 93 0 (jw_rk hm b w + q)) (jh_I hm 94 0 (jw_rk hm b w + q))) ∧ jw_okb 40 (jh_I hm 93 0) (jw_rn hm b w) (jw_rk hm b w) 0 ∧
    (jh_I h 7 r 13 = 0 → ∀ q, q < jw_rn hm b w → ¬ jh_I hm 93 0 (jw_rk hm b w + q) = 103 ∧ ¬ jh_I hm 93 0 (jw_rk hm b w + q) = 111))
def jy_R (h : jx_H) (r : Nat) (hm : jx_H) (b : Nat) : Prop :=
  jh_I h 7 r 0 = jC hm b 0 0 ∧ jh_I h 7 r 3 = jC hm b 1 0 ∧ jh_I h 7 r 5 = jC hm b 2 0 ∧ (∀ j, j < jz_nm hm b → jh_I h 21 r j = jC hm b 3 j ∧ jh_I h 22 r j = jC hm b 4 j) ∧
  (∀ p, p < jz_np hm b → jh_I h 23 r p = jC hm b 5 p) ∧ (∀ d, d < jz_nd hm b → jy_due h r hm b d) ∧
  jh_I h 7 r 7 = jw_sunU (jC hm b) ∧ (¬ jC hm b 0 0 = 0 → jh_I h 7 r 8 = jw_sunL (jC hm b)) ∧ jh_I h 7 r 9 = jC hm b 15 0 + 122 ∧ jh_I h 7 r 10 = jC hm b 16 0 ∧ jh_I h 7 r 11 = jC hm b 17 0 ∧ jh_I h 7 r 12 = jh_I hm 69 0 b ∧
  (∀ w, w < 6 → jy_code h r hm b w)
/-- how many people republic r of the class has; its rows may hold old votes behind them -/
def jy_np (h : jx_H) (r : Nat) : Nat := (jh_I h 7 r 3).toNatClampNeg
theorem jy_npR {h hm : jx_H} {r b : Nat} (R : jy_R h r hm b) : jy_np h r = jz_np hm b := congrArg Int32.toNatClampNeg R.2.1
/-- calendar c of the class, of republic r -/
def jy_A (h : jx_H) (c r : Nat) (a : jw_A) : Prop :=
  jh_M h 1 c 0 = r + 1 ∧ jh_I h 1 c 2 = a 0 ∧ jh_I h 1 c 3 = a 1 ∧ (∀ p, p < 5 → jh_I h 32 c p = a (2 + p) ∧ (p < jy_np h r → jh_I h 33 c p = a (7 + p))) ∧
  (∀ d, d < 12 → jh_I h 34 c d = a (12 + d) ∧ jh_I h 35 c d = a (24 + d) ∧ jh_I h 36 c d = (a 36 >>> (nI d &&& 31)) &&& 1)
/-! the class's heap with the poll's rows replaced -/
def jk_p (a : Nat) : Bool := a == 5 || a == 37 || a == 38 || a == 39 || a == 40 || a == 41 || a == 42 || a == 43 || a == 44 || a == 45 || a == 46 || a == 47 || a == 8 || a == 3
def jP (h : jx_H) (S : Nat → Nat → Int32) (k : Nat) : jx_H := (fun a b => if jk_p a = true ∧ b = 0 then S a else h.1 a b, h.2.1, (fun a b => if a = 5 ∧ b = 0 then va_up (h.2.2.1 5 0) 5 k else h.2.2.1 a b), h.2.2.2)
theorem jP_u {h : jx_H} {S : Nat → Nat → Int32} {k a : Nat} {f : Nat → Int32} (ha : jk_p a = true) : ju_I (jP h S k) a 0 f = jP h (fun x => if x = a then f else S x) k := by
  unfold ju_I jP
  refine congrArg (·, _) ?_
  funext x y
  dsimp only
  by_cases e : x = a ∧ y = 0
  · rw [if_pos e, if_pos ⟨by rw [e.1]; exact ha, e.2⟩, if_pos e.1]
  · rw [if_neg e]
    by_cases e2 : jk_p x = true ∧ y = 0
    · rw [if_pos e2, if_pos e2, if_neg (fun z => e ⟨z, e2.2⟩)]
    · rw [if_neg e2, if_neg e2]
theorem jP_M {h : jx_H} {S : Nat → Nat → Int32} {k v : Nat} : ju_M (jP h S k) 5 0 (va_up (jh_M (jP h S k) 5 0) 5 v) = jP h S v := by
  unfold ju_M jP jh_M
  refine congrArg (_, ·) (congrArg (_, ·) (congrArg (·, _) ?_))
  funext x y
  dsimp only
  by_cases e : x = 5 ∧ y = 0
  · rw [if_pos e, if_pos e, if_pos ⟨rfl, rfl⟩]
    funext j
    unfold va_up
    split <;> rfl
  · rw [if_neg e, if_neg e, if_neg e]
theorem jP_P (h : jx_H) (S S' : Nat → Nat → Int32) (k k' : Nat) : jP (jP h S k) S' k' = jP h S' k' := by
  unfold jP
  refine Prod.ext ?_ (congrArg (_, ·) (congrArg (·, _) ?_))
  · funext x y
    dsimp only
    split <;> rfl
  · funext x y
    dsimp only
    by_cases e : x = 5 ∧ y = 0
    · rw [if_pos e, if_pos e, if_pos (⟨rfl, rfl⟩ : (5 : Nat) = 5 ∧ (0 : Nat) = 0)]
      funext j; unfold va_up; split <;> rfl
    · rw [if_neg e, if_neg e, if_neg e]
theorem jP_self (h : jx_H) : jP h (fun a => jh_I h a 0) (jh_M h 5 0 5) = h := by
  unfold jP jh_I jh_M
  refine Prod.ext ?_ (Prod.ext rfl (Prod.ext ?_ rfl))
  · funext x y
    dsimp only
    split
    · rename_i e; rw [e.2]
    · rfl
  · funext x y
    dsimp only
    split
    · rename_i e
      rw [e.1, e.2]
      funext j; unfold va_up; split
      · rename_i e; rw [e]
      · rfl
    · rfl
theorem jP_5 (h : jx_H) (S : Nat → Nat → Int32) (k : Nat) (f : Nat → Int32) : ju_I (jP h S k) 5 0 f = jP h (fun x => if x = 5 then f else S x) k := jP_u rfl
theorem jP_r5 (h : jx_H) (S : Nat → Nat → Int32) (k : Nat) : jh_I (jP h S k) 5 0 = S 5 := rfl
theorem jP_37 (h : jx_H) (S : Nat → Nat → Int32) (k : Nat) (f : Nat → Int32) : ju_I (jP h S k) 37 0 f = jP h (fun x => if x = 37 then f else S x) k := jP_u rfl
theorem jP_r37 (h : jx_H) (S : Nat → Nat → Int32) (k : Nat) : jh_I (jP h S k) 37 0 = S 37 := rfl
theorem jP_38 (h : jx_H) (S : Nat → Nat → Int32) (k : Nat) (f : Nat → Int32) : ju_I (jP h S k) 38 0 f = jP h (fun x => if x = 38 then f else S x) k := jP_u rfl
theorem jP_r38 (h : jx_H) (S : Nat → Nat → Int32) (k : Nat) : jh_I (jP h S k) 38 0 = S 38 := rfl
theorem jP_39 (h : jx_H) (S : Nat → Nat → Int32) (k : Nat) (f : Nat → Int32) : ju_I (jP h S k) 39 0 f = jP h (fun x => if x = 39 then f else S x) k := jP_u rfl
theorem jP_r39 (h : jx_H) (S : Nat → Nat → Int32) (k : Nat) : jh_I (jP h S k) 39 0 = S 39 := rfl
theorem jP_40 (h : jx_H) (S : Nat → Nat → Int32) (k : Nat) (f : Nat → Int32) : ju_I (jP h S k) 40 0 f = jP h (fun x => if x = 40 then f else S x) k := jP_u rfl
theorem jP_r40 (h : jx_H) (S : Nat → Nat → Int32) (k : Nat) : jh_I (jP h S k) 40 0 = S 40 := rfl
theorem jP_41 (h : jx_H) (S : Nat → Nat → Int32) (k : Nat) (f : Nat → Int32) : ju_I (jP h S k) 41 0 f = jP h (fun x => if x = 41 then f else S x) k := jP_u rfl
theorem jP_r41 (h : jx_H) (S : Nat → Nat → Int32) (k : Nat) : jh_I (jP h S k) 41 0 = S 41 := rfl
theorem jP_42 (h : jx_H) (S : Nat → Nat → Int32) (k : Nat) (f : Nat → Int32) : ju_I (jP h S k) 42 0 f = jP h (fun x => if x = 42 then f else S x) k := jP_u rfl
theorem jP_r42 (h : jx_H) (S : Nat → Nat → Int32) (k : Nat) : jh_I (jP h S k) 42 0 = S 42 := rfl
theorem jP_43 (h : jx_H) (S : Nat → Nat → Int32) (k : Nat) (f : Nat → Int32) : ju_I (jP h S k) 43 0 f = jP h (fun x => if x = 43 then f else S x) k := jP_u rfl
theorem jP_r43 (h : jx_H) (S : Nat → Nat → Int32) (k : Nat) : jh_I (jP h S k) 43 0 = S 43 := rfl
theorem jP_44 (h : jx_H) (S : Nat → Nat → Int32) (k : Nat) (f : Nat → Int32) : ju_I (jP h S k) 44 0 f = jP h (fun x => if x = 44 then f else S x) k := jP_u rfl
theorem jP_r44 (h : jx_H) (S : Nat → Nat → Int32) (k : Nat) : jh_I (jP h S k) 44 0 = S 44 := rfl
theorem jP_45 (h : jx_H) (S : Nat → Nat → Int32) (k : Nat) (f : Nat → Int32) : ju_I (jP h S k) 45 0 f = jP h (fun x => if x = 45 then f else S x) k := jP_u rfl
theorem jP_r45 (h : jx_H) (S : Nat → Nat → Int32) (k : Nat) : jh_I (jP h S k) 45 0 = S 45 := rfl
theorem jP_46 (h : jx_H) (S : Nat → Nat → Int32) (k : Nat) (f : Nat → Int32) : ju_I (jP h S k) 46 0 f = jP h (fun x => if x = 46 then f else S x) k := jP_u rfl
theorem jP_r46 (h : jx_H) (S : Nat → Nat → Int32) (k : Nat) : jh_I (jP h S k) 46 0 = S 46 := rfl
theorem jP_47 (h : jx_H) (S : Nat → Nat → Int32) (k : Nat) (f : Nat → Int32) : ju_I (jP h S k) 47 0 f = jP h (fun x => if x = 47 then f else S x) k := jP_u rfl
theorem jP_r47 (h : jx_H) (S : Nat → Nat → Int32) (k : Nat) : jh_I (jP h S k) 47 0 = S 47 := rfl
theorem jP_8 (h : jx_H) (S : Nat → Nat → Int32) (k : Nat) (f : Nat → Int32) : ju_I (jP h S k) 8 0 f = jP h (fun x => if x = 8 then f else S x) k := jP_u rfl
theorem jP_r8 (h : jx_H) (S : Nat → Nat → Int32) (k : Nat) : jh_I (jP h S k) 8 0 = S 8 := rfl
theorem jP_3 (h : jx_H) (S : Nat → Nat → Int32) (k : Nat) (f : Nat → Int32) : ju_I (jP h S k) 3 0 f = jP h (fun x => if x = 3 then f else S x) k := jP_u rfl
theorem jP_r3 (h : jx_H) (S : Nat → Nat → Int32) (k : Nat) : jh_I (jP h S k) 3 0 = S 3 := rfl
theorem jP_rM (h : jx_H) (S : Nat → Nat → Int32) (k : Nat) : jh_M (jP h S k) 5 0 5 = k := rfl
