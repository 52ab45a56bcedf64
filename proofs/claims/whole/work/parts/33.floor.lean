theorem jn_neg (x : Int32) : x < 0 ↔ x.toBitVec.msb = true := by
  rw [Int32.lt_iff_toInt_lt]
  show x.toBitVec.toInt < 0 ↔ _
  rw [BitVec.msb_eq_toInt, decide_eq_true_iff]
theorem jn_xneg {x : Int32} {L : Nat} (hL : L < 2 ^ 31) : x ^^^ nI L < 0 ↔ x < 0 := by
  rw [jn_neg, jn_neg, Int32.toBitVec_xor, BitVec.msb_xor]
  have : (nI L).toBitVec.msb = false := by
    rcases h : (nI L).toBitVec.msb with _ | _
    · rfl
    · exact absurd ((jn_neg _).mpr h) (nI_pos hL)
  rw [this, Bool.xor_false]
theorem jn_sm {x : Int} (h1 : -2147483648 ≤ x) (h2 : x < 2147483648) : x.bmod (2 ^ 32) = x := by apply Int.bmod_eq_of_le <;> omega
theorem jn_qb {x : Int} {L : Nat} (hL : 1 ≤ L) (h1 : -2147483648 ≤ x) (h2 : x < 2147483648) : -2147483648 ≤ x.tdiv L ∧ x.tdiv L < 2147483648 ∧ -2147483648 ≤ x / L ∧ x / L < 2147483648 ∧ -2147483648 ≤ x.tdiv L * L ∧ x.tdiv L * L < 2147483648 := by
  have hd : (x.tdiv L).natAbs ≤ x.natAbs := Int.natAbs_tdiv_le_natAbs _ _
  have hm : (x.tdiv L * L).natAbs ≤ x.natAbs := by
    rw [Int.natAbs_mul, Int.natAbs_tdiv]
    exact Nat.div_mul_le_self _ _
  have hp : (0 : Int) < (L : Int) := by omega
  have h5 : x / L * L ≤ x := Int.ediv_mul_le x (by omega)
  have h6 : x < (x / L + 1) * L := by have := Int.lt_ediv_add_one_mul_self x hp; exact this
  have h7 : x / L < 2147483648 := by
    apply Int.ediv_lt_of_lt_mul hp
    have : (1 : Int) ≤ L := by omega
    have : (2147483648 : Int) * 1 ≤ 2147483648 * L := Int.mul_le_mul_of_nonneg_left this (by omega)
    omega
  have h8 : -2147483648 ≤ x / L := by
    apply (Int.le_ediv_iff_mul_le hp).mpr
    have : (1 : Int) ≤ L := by omega
    have : (2147483648 : Int) * 1 ≤ 2147483648 * L := Int.mul_le_mul_of_nonneg_left this (by omega)
    omega
  have hx : x.natAbs ≤ 2147483648 := by omega
  refine ⟨?_, ?_, h8, h7, ?_, ?_⟩
  · omega
  · by_cases e : x < 0
    · have : x.tdiv L ≤ 0 := by
        have z1 : x.tdiv L = -((-x).tdiv L) := by rw [Int.neg_tdiv, Int.neg_neg]
        have z2 : 0 ≤ (-x).tdiv L := Int.tdiv_nonneg (by omega) (by omega)
        omega
      omega
    · omega
  · omega
  · by_cases e : x < 0
    · have h9 : x.tdiv L ≤ 0 := by
        have z1 : x.tdiv L = -((-x).tdiv L) := by rw [Int.neg_tdiv, Int.neg_neg]
        have z2 : 0 ≤ (-x).tdiv L := Int.tdiv_nonneg (by omega) (by omega)
        omega
      have : x.tdiv L * L ≤ 0 := Int.mul_nonpos_of_nonpos_of_nonneg h9 (by omega)
      omega
    · omega
theorem jn_divI {x : Int32} {L : Nat} (hL : 1 ≤ L) (hL2 : L < 2 ^ 31) : (x / nI L).toInt = x.toInt.tdiv L ∧ (x / nI L * nI L).toInt = x.toInt.tdiv L * L := by
  have h1 := Int32.le_toInt x
  have h2 := Int32.toInt_lt x
  obtain ⟨g1, g2, g3, g4, g5, g6⟩ := jn_qb hL (by exact h1) (by exact h2)
  have e : (x / nI L).toInt = x.toInt.tdiv L := by
    rw [Int32.toInt_div, nI_toInt hL2]
    exact jn_sm g1 g2
  refine ⟨e, ?_⟩
  rw [Int32.toInt_mul, e, nI_toInt hL2]
  exact jn_sm g5 g6
theorem jn_fl {x : Int32} {L : Nat} (hL : 1 ≤ L) (hL2 : L < 2 ^ 31) : (¬ x < 0 → (x / nI L).toInt = x.toInt / L) ∧ (x < 0 → x / nI L * nI L = x → (x / nI L).toInt = x.toInt / L) ∧ (x < 0 → ¬ x / nI L * nI L = x → (x / nI L - 1).toInt = x.toInt / L) := by
  have h1 := Int32.le_toInt x
  have h2 := Int32.toInt_lt x
  obtain ⟨g1, g2, g3, g4, g5, g6⟩ := jn_qb hL (by exact h1) (by exact h2)
  obtain ⟨e1, e2⟩ := jn_divI (x := x) hL hL2
  refine ⟨fun h => ?_, fun h h3 => ?_, fun h h3 => ?_⟩
  · rw [e1]
    rw [Int32.lt_iff_toInt_lt] at h
    exact Int.tdiv_eq_ediv_of_nonneg (by have : (0 : Int32).toInt = 0 := rfl; omega)
  · rw [h3] at e2
    rw [e1]
    have hd : (L : Int) ∣ x.toInt := ⟨x.toInt.tdiv L, by rw [Int.mul_comm]; exact e2⟩
    rw [Int.tdiv_eq_ediv, if_pos (Or.inr hd), Int.add_zero]
  · have hd : ¬ (0 ≤ x.toInt ∨ (L : Int) ∣ x.toInt) := by
      rintro (z | z)
      · rw [Int32.lt_iff_toInt_lt] at h
        have : (0 : Int32).toInt = 0 := rfl
        omega
      · exact h3 (Int32.toInt_inj.mp (by rw [e2]; exact Int.tdiv_mul_cancel z))
    have hq := Int.tdiv_eq_ediv (a := x.toInt) (b := (L : Int))
    rw [if_neg hd, Int.sign_eq_one_of_pos (by omega)] at hq
    rw [Int32.toInt_sub, e1, show (1 : Int32).toInt = 1 from rfl, jn_sm (by omega) (by omega)]
    omega
set_option maxHeartbeats 4000000 in
set_option maxRecDepth 100000 in
theorem ev_Math_floorDiv {d : Nat} {h : jx_H} {Q : Option jx_V → jx_H → Prop} {x : Int32} {L : Nat} (hL : 1 ≤ L) (hL2 : L < 2 ^ 31) (hQ : ∀ v : Int32, v.toInt = x.toInt / L → Q (some (jv_i v)) h) : jx_Ev jm_Math_floorDiv (d) 0 0 false 0 [jv_i x, jv_i (nI L)] h Q := by
  show jx_W (jm_Math_floorDiv, d, 0, 0, false, 0, _) Q 0 0 0 [some (jv_i x), some (jv_i (nI L)), none] [] _
  obtain ⟨f1, f2, f3⟩ := jn_fl (x := x) hL hL2
  refine jr_iload rfl rfl ?_
  refine jr_iload rfl rfl ?_
  refine jr_idiv rfl (nI_ne0 hL hL2) ?_
  refine jr_ist2 rfl rfl ?_
  refine jr_iload rfl rfl ?_
  refine jr_iload rfl rfl ?_
  refine jr_ixor rfl ?_
  refine jr_if_ge rfl (fun c7 => ?_) (fun c7 => ?_)
  · refine jr_iload rfl rfl ?_
    refine jr_iret rfl rfl (Nat.zero_le _) (Nat.zero_le _) ?_
    exact hQ _ (f1 (fun z => Int32.not_lt.mpr c7 ((jn_xneg hL2).mpr z)))
  · refine jr_iload rfl rfl ?_
    refine jr_iload rfl rfl ?_
    refine jr_imul rfl ?_
    refine jr_iload rfl rfl ?_
    refine jr_icmp_eq rfl (fun c12 => ?_) (fun c12 => ?_)
    · refine jr_iload rfl rfl ?_
      refine jr_iret rfl rfl (Nat.zero_le _) (Nat.zero_le _) ?_
      exact hQ _ (f2 ((jn_xneg hL2).mp (Int32.not_le.mp c7)) c12)
    · refine jr_iload rfl rfl ?_
      refine jr_ic rfl ?_
      refine jr_isub rfl ?_
      refine jr_iret rfl rfl (Nat.zero_le _) (Nat.zero_le _) ?_
      exact hQ _ (f3 ((jn_xneg hL2).mp (Int32.not_le.mp c7)) c12)

theorem jw_down_I {x : Int32} {L : Nat} (hL : 1 ≤ L) (hL2 : L ≤ 594) (h1 : -1073741824 ≤ x.toInt) (h2 : x.toInt ≤ 1073741824) : (jw_down x (nI L)).toInt = x.toInt / L := by
  unfold jw_down
  have h0 : (0 : Int32).toInt = 0 := rfl
  by_cases h : x < 0
  · rw [if_pos h]
    rw [Int32.lt_iff_toInt_lt] at h
    have e1 : (nI L - 1 - x).toInt = (L : Int) - 1 - x.toInt := by
      rw [Int32.toInt_sub, Int32.toInt_sub, nI_toInt (by omega), show (1 : Int32).toInt = 1 from rfl]
      rw [jn_sm (x := (L : Int) - 1) (by omega) (by omega)]
      exact jn_sm (by omega) (by omega)
    have hp : (0 : Int) < (L : Int) := by omega
    have e2 : ((nI L - 1 - x) / nI L).toInt = ((L : Int) - 1 - x.toInt) / L := by
      rw [← e1]
      refine (jn_fl hL (by omega)).1 ?_
      rw [Int32.lt_iff_toInt_lt, e1]
      omega
    have hb : 0 ≤ ((L : Int) - 1 - x.toInt) / L := Int.ediv_nonneg (by omega) (by omega)
    have hb2 : ((L : Int) - 1 - x.toInt) / L ≤ (L : Int) - 1 - x.toInt := Int.ediv_le_self _ (by omega)
    have e3 : ((L : Int) - 1 - x.toInt) / L = -(x.toInt / L) := by
      have hx := Int.mul_ediv_add_emod x.toInt (L : Int)
      have hr1 := Int.emod_nonneg x.toInt (b := (L : Int)) (by omega)
      have hr2 := Int.emod_lt_of_pos x.toInt hp
      generalize x.toInt / (L : Int) = q at hx ⊢
      generalize x.toInt % (L : Int) = r at hx hr1 hr2
      have : (L : Int) - 1 - x.toInt = ((L : Int) - 1 - r) + (-q) * L := by
        rw [← hx, Int.neg_mul, Int.mul_comm q L]; omega
      rw [this, Int.add_mul_ediv_right _ _ (by omega), Int.ediv_eq_zero_of_lt (by omega) (by omega)]
      omega
    rw [Int32.toInt_neg, e2, jn_sm (by omega) (by omega), e3]
    omega
  · rw [if_neg h]
    exact (jn_fl hL (by omega)).1 h
