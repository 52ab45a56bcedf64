theorem jt_bv (x : BitVec 32) (s : Nat) (hs : s ≤ 24) : (x >>> s).signExtend 8 = (x.sshiftRight s).signExtend 8 := by
  rw [BitVec.signExtend_eq_setWidth_of_le _ (by decide), BitVec.signExtend_eq_setWidth_of_le _ (by decide)]
  apply BitVec.eq_of_getLsbD_eq
  intro i hi
  simp only [BitVec.getLsbD_setWidth, BitVec.getLsbD_ushiftRight, BitVec.getLsbD_sshiftRight]
  have h1 : decide (i < 8) = true := decide_eq_true hi
  have h2 : ¬ (32 ≤ i) := by omega
  have h3 : s + i < 32 := by omega
  simp [h1, h2, h3]
theorem jt_by24 (v : Int32) : ((v.toUInt32 >>> ((24 : Int32).toUInt32 &&& Int32.toUInt32 31)).toInt32).toInt8 = (v >>> ((24 - 8 * (0 : Int32)) &&& 31)).toInt8 := by
  apply Int8.toBitVec_inj.mp
  have := jt_bv v.toBitVec 24 (by decide)
  simpa using this
theorem jt_by16 (v : Int32) : ((v.toUInt32 >>> ((16 : Int32).toUInt32 &&& Int32.toUInt32 31)).toInt32).toInt8 = (v >>> ((24 - 8 * (1 : Int32)) &&& 31)).toInt8 := by
  apply Int8.toBitVec_inj.mp
  have := jt_bv v.toBitVec 16 (by decide)
  simpa using this
theorem jt_by8 (v : Int32) : ((v.toUInt32 >>> ((8 : Int32).toUInt32 &&& Int32.toUInt32 31)).toInt32).toInt8 = (v >>> ((24 - 8 * (2 : Int32)) &&& 31)).toInt8 := by
  apply Int8.toBitVec_inj.mp
  have := jt_bv v.toBitVec 8 (by decide)
  simpa using this
theorem jt_by0 (v : Int32) : ((v.toUInt32 >>> ((0 : Int32).toUInt32 &&& Int32.toUInt32 31)).toInt32).toInt8 = (v >>> ((24 - 8 * (3 : Int32)) &&& 31)).toInt8 := by
  apply Int8.toBitVec_inj.mp
  have := jt_bv v.toBitVec 0 (by decide)
  simpa using this
def jt_z (x sh : Int32) : Int32 := (((x.toUInt32 >>> (sh.toUInt32 &&& Int32.toUInt32 31)).toInt32).toInt8.toInt32).toInt8.toInt32
def jt_m (x k : Int32) : Int32 := ((x >>> ((24 - 8 * k) &&& 31)).toInt8.toInt32).toInt8.toInt32
def jt_C (h : jx_H) (s : Nat) (B : Nat → Int32) : jx_H := ju_I (ju_I h 16 0 B) 9 0 (upd (jh_I h 9 0) 5 (nI s))
def jt_4 (B : Nat → Int32) (s : Nat) (x : Int32) : Nat → Int32 := upd (upd (upd (upd B s (jt_z x 24)) (s + 1) (jt_z x 16)) (s + 1 + 1) (jt_z x 8)) (s + 1 + 1 + 1) (jt_z x 0)
theorem jt_Cs (h : jx_H) (s : Nat) (B : Nat → Int32) (z : Int32) : ju_I (ju_I (jt_C h s B) 16 0 (upd (jh_I (jt_C h s B) 16 0) s z)) 9 0 (upd (jh_I (ju_I (jt_C h s B) 16 0 (upd (jh_I (jt_C h s B) 16 0) s z)) 9 0) 5 (jh_I (ju_I (jt_C h s B) 16 0 (upd (jh_I (jt_C h s B) 16 0) s z)) 9 0 5 + 1)) = jt_C h (s + 1) (upd B s z) := by
  have e1 : jh_I (ju_I (jt_C h s B) 16 0 (upd (jh_I (jt_C h s B) 16 0) s z)) 9 0 = upd (jh_I h 9 0) 5 (nI s) := rfl
  have e2 : jh_I (jt_C h s B) 16 0 = B := rfl
  rw [e1, e2, jg_us, jn_S]
  unfold jt_C ju_I
  refine congrArg (·, h.2) ?_
  funext x y
  dsimp only
  by_cases a : x = 9 ∧ y = 0
  · rw [if_pos a, if_pos a]
    funext j
    unfold upd
    split <;> rfl
  · rw [if_neg a, if_neg a, if_neg a]
    by_cases c : x = 16 ∧ y = 0
    · rw [if_pos c, if_pos c]
    · rw [if_neg c, if_neg c, if_neg c]
theorem jt_C_self {h : jx_H} {s : Nat} (e : jh_I h 9 0 5 = nI s) : jt_C h s (jh_I h 16 0) = h := by
  unfold jt_C
  rw [jg_self]
  have : upd (jh_I h 9 0) 5 (nI s) = jh_I h 9 0 := by
    funext j
    unfold upd
    split
    · rename_i q
      rw [q, e]
    · rfl
  rw [this, jg_self]
theorem jt_lo {B : Nat → Int32} {s j : Nat} {x : Int32} (h : j < s) : jt_4 B s x j = B j := by
  unfold jt_4
  rw [jg_un (by omega), jg_un (by omega), jg_un (by omega), jg_un (by omega)]
theorem jt_hi {B : Nat → Int32} {s i : Nat} {x : Int32} (h : i < 4) : jt_4 B s x (s + i) = jt_m x (nI i) := by
  unfold jt_4
  match i, h with
  | 0, _ =>
    rw [jg_un (by omega), jg_un (by omega), jg_un (by omega), Nat.add_zero, jg_us]
    exact congrArg (fun z => z.toInt32.toInt8.toInt32) (jt_by24 x)
  | 1, _ =>
    rw [jg_un (by omega), jg_un (by omega), jg_us]
    exact congrArg (fun z => z.toInt32.toInt8.toInt32) (jt_by16 x)
  | 2, _ =>
    rw [jg_un (by omega), jg_us]
    exact congrArg (fun z => z.toInt32.toInt8.toInt32) (jt_by8 x)
  | 3, _ =>
    rw [jg_us]
    exact congrArg (fun z => z.toInt32.toInt8.toInt32) (jt_by0 x)
set_option maxHeartbeats 800000 in
set_option maxRecDepth 100000 in
theorem ev_put {d : Nat} {h : jx_H} {Q : Option jx_V → jx_H → Prop} {s : Nat} {B : Nat → Int32} {x : Int32} (hs : s + 4 ≤ 1700) (k : Q none (jt_C h (s + 4) (jt_4 B s x)))  : jx_Ev jm_Tape_put (d + 1) 0 0 false 0 [jv_r 9 0, jv_i x] (jt_C h s B) Q := by
  show jx_W (jm_Tape_put, d + 1, 0, 0, false, 0, _) Q 0 0 0 [some (jv_r 9 0), some (jv_i x), none] [] _
  refine jr_ic rfl ?_
  refine jr_ist2 rfl rfl ?_
  refine jr_iload rfl rfl ?_
  refine jr_if_lt rfl (fun z => absurd z (by decide)) (fun _ => ?_)
  refine jr_aload rfl rfl ?_
  refine jr_getI rfl rfl ?_
  refine jr_if_lt rfl (fun z => absurd z (nI_pos (n := s) (by omega))) (fun _ => ?_)
  refine jr_aload rfl rfl ?_
  refine jr_getI rfl rfl ?_
  refine jr_aload rfl rfl ?_
  refine jr_getR rfl rfl rfl rfl (Or.inl rfl) ?_
  refine jr_alen (so := 2) (len := 1700) rfl rfl rfl rfl ?_
  refine jr_icmp_ge rfl (fun z => absurd z (nI_ge (a := s) (b := 1700) (by omega) (by decide))) (fun _ => ?_)
  refine jr_aload rfl rfl ?_
  refine jr_getR rfl rfl rfl rfl (Or.inl rfl) ?_
  refine jr_aload rfl rfl ?_
  refine jr_getI rfl rfl ?_
  refine jr_iload rfl rfl ?_
  refine jr_iload rfl rfl ?_
  refine jr_iushr rfl ?_
  refine jr_i2b rfl ?_
  refine jr_bast (len := 1700) rfl rfl rfl (by omega) ?_
  refine jr_aload rfl rfl ?_
  refine jr_dup_r rfl ?_
  refine jr_getI rfl rfl ?_
  refine jr_ic rfl ?_
  refine jr_iadd rfl ?_
  refine jr_putI rfl rfl ?_
  rw [jt_Cs]
  refine jr_iinc2 rfl rfl ?_
  refine jr_goto rfl ?_
  refine jr_iload rfl rfl ?_
  refine jr_if_lt rfl (fun z => absurd z (by decide)) (fun _ => ?_)
  refine jr_aload rfl rfl ?_
  refine jr_getI rfl rfl ?_
  refine jr_if_lt rfl (fun z => absurd z (nI_pos (n := s + 1) (by omega))) (fun _ => ?_)
  refine jr_aload rfl rfl ?_
  refine jr_getI rfl rfl ?_
  refine jr_aload rfl rfl ?_
  refine jr_getR rfl rfl rfl rfl (Or.inl rfl) ?_
  refine jr_alen (so := 2) (len := 1700) rfl rfl rfl rfl ?_
  refine jr_icmp_ge rfl (fun z => absurd z (nI_ge (a := s + 1) (b := 1700) (by omega) (by decide))) (fun _ => ?_)
  refine jr_aload rfl rfl ?_
  refine jr_getR rfl rfl rfl rfl (Or.inl rfl) ?_
  refine jr_aload rfl rfl ?_
  refine jr_getI rfl rfl ?_
  refine jr_iload rfl rfl ?_
  refine jr_iload rfl rfl ?_
  refine jr_iushr rfl ?_
  refine jr_i2b rfl ?_
  refine jr_bast (len := 1700) rfl rfl rfl (by omega) ?_
  refine jr_aload rfl rfl ?_
  refine jr_dup_r rfl ?_
  refine jr_getI rfl rfl ?_
  refine jr_ic rfl ?_
  refine jr_iadd rfl ?_
  refine jr_putI rfl rfl ?_
  rw [jt_Cs]
  refine jr_iinc2 rfl rfl ?_
  refine jr_goto rfl ?_
  refine jr_iload rfl rfl ?_
  refine jr_if_lt rfl (fun z => absurd z (by decide)) (fun _ => ?_)
  refine jr_aload rfl rfl ?_
  refine jr_getI rfl rfl ?_
  refine jr_if_lt rfl (fun z => absurd z (nI_pos (n := s + 1 + 1) (by omega))) (fun _ => ?_)
  refine jr_aload rfl rfl ?_
  refine jr_getI rfl rfl ?_
  refine jr_aload rfl rfl ?_
  refine jr_getR rfl rfl rfl rfl (Or.inl rfl) ?_
  refine jr_alen (so := 2) (len := 1700) rfl rfl rfl rfl ?_
  refine jr_icmp_ge rfl (fun z => absurd z (nI_ge (a := s + 1 + 1) (b := 1700) (by omega) (by decide))) (fun _ => ?_)
  refine jr_aload rfl rfl ?_
  refine jr_getR rfl rfl rfl rfl (Or.inl rfl) ?_
  refine jr_aload rfl rfl ?_
  refine jr_getI rfl rfl ?_
  refine jr_iload rfl rfl ?_
  refine jr_iload rfl rfl ?_
  refine jr_iushr rfl ?_
  refine jr_i2b rfl ?_
  refine jr_bast (len := 1700) rfl rfl rfl (by omega) ?_
  refine jr_aload rfl rfl ?_
  refine jr_dup_r rfl ?_
  refine jr_getI rfl rfl ?_
  refine jr_ic rfl ?_
  refine jr_iadd rfl ?_
  refine jr_putI rfl rfl ?_
  rw [jt_Cs]
  refine jr_iinc2 rfl rfl ?_
  refine jr_goto rfl ?_
  refine jr_iload rfl rfl ?_
  refine jr_if_lt rfl (fun z => absurd z (by decide)) (fun _ => ?_)
  refine jr_aload rfl rfl ?_
  refine jr_getI rfl rfl ?_
  refine jr_if_lt rfl (fun z => absurd z (nI_pos (n := s + 1 + 1 + 1) (by omega))) (fun _ => ?_)
  refine jr_aload rfl rfl ?_
  refine jr_getI rfl rfl ?_
  refine jr_aload rfl rfl ?_
  refine jr_getR rfl rfl rfl rfl (Or.inl rfl) ?_
  refine jr_alen (so := 2) (len := 1700) rfl rfl rfl rfl ?_
  refine jr_icmp_ge rfl (fun z => absurd z (nI_ge (a := s + 1 + 1 + 1) (b := 1700) (by omega) (by decide))) (fun _ => ?_)
  refine jr_aload rfl rfl ?_
  refine jr_getR rfl rfl rfl rfl (Or.inl rfl) ?_
  refine jr_aload rfl rfl ?_
  refine jr_getI rfl rfl ?_
  refine jr_iload rfl rfl ?_
  refine jr_iload rfl rfl ?_
  refine jr_iushr rfl ?_
  refine jr_i2b rfl ?_
  refine jr_bast (len := 1700) rfl rfl rfl (by omega) ?_
  refine jr_aload rfl rfl ?_
  refine jr_dup_r rfl ?_
  refine jr_getI rfl rfl ?_
  refine jr_ic rfl ?_
  refine jr_iadd rfl ?_
  refine jr_putI rfl rfl ?_
  rw [jt_Cs]
  refine jr_iinc2 rfl rfl ?_
  refine jr_goto rfl ?_
  refine jr_iload rfl rfl ?_
  refine jr_if_lt rfl (fun _ => ?_) (fun z => absurd (by decide) z)
  refine jr_vret rfl rfl (Nat.zero_le _) (Nat.zero_le _) ?_
  exact k

theorem ev_put0 {d : Nat} {h : jx_H} {Q : Option jx_V → jx_H → Prop} {s : Nat} {x : Int32} (e : jh_I h 9 0 5 = nI s) (hs : s + 4 ≤ 1700) (k : Q none (jt_C h (s + 4) (jt_4 (jh_I h 16 0) s x))) : jx_Ev jm_Tape_put (d + 1) 0 0 false 0 [jv_r 9 0, jv_i x] h Q := by
  have := ev_put (d := d) (h := h) (Q := Q) (x := x) (B := jh_I h 16 0) hs k
  rw [jt_C_self e] at this
  exact this
def jt_v (y1 y2 y3 y4 y5 : Int32) (k : Nat) : Int32 := if k < 4 then y1 else if k < 8 then y2 else if k < 12 then y3 else if k < 16 then y4 else y5
theorem jt_k3 : ∀ k, k < 20 → nI k &&& 3 = nI (k % 4) := by decide
theorem jt_same {A B0 B : Nat → Int32} {s : Nat} {y1 y2 y3 y4 y5 : Int32} (h0 : ∀ j, j < s → A j = B0 j) (h1 : ∀ j, j < s → B j = B0 j) (h2 : ∀ k, k < 20 → B (s + k) = jt_m (jt_v y1 y2 y3 y4 y5 k) (nI k &&& 3)) : ∀ j, j < s + 20 → jt_4 (jt_4 (jt_4 (jt_4 (jt_4 A s y1) (s + 4) y2) (s + 4 + 4) y3) (s + 4 + 4 + 4) y4) (s + 4 + 4 + 4 + 4) y5 j = B j := by
  intro j hj
  rcases Nat.lt_or_ge j s with c | c
  · rw [jt_lo (by omega), jt_lo (by omega), jt_lo (by omega), jt_lo (by omega), jt_lo c, h0 j c, h1 j c]
  · obtain ⟨k, rfl⟩ : ∃ k, j = s + k := ⟨j - s, by omega⟩
    have hk : k < 20 := by omega
    rw [h2 k hk, jt_k3 k hk]
    unfold jt_v
    by_cases c1 : k < 4
    · rw [if_pos c1, jt_lo (by omega), jt_lo (by omega), jt_lo (by omega), jt_lo (by omega), jt_hi c1, Nat.mod_eq_of_lt c1]
    · rw [if_neg c1]
      by_cases c2 : k < 8
      · rw [if_pos c2, jt_lo (by omega), jt_lo (by omega), jt_lo (by omega), show s + k = s + 4 + (k - 4) by omega, jt_hi (by omega), show k % 4 = k - 4 by omega]
      · rw [if_neg c2]
        by_cases c3 : k < 12
        · rw [if_pos c3, jt_lo (by omega), jt_lo (by omega), show s + k = s + 4 + 4 + (k - 8) by omega, jt_hi (by omega), show k % 4 = k - 8 by omega]
        · rw [if_neg c3]
          by_cases c4 : k < 16
          · rw [if_pos c4, jt_lo (by omega), show s + k = s + 4 + 4 + 4 + (k - 12) by omega, jt_hi (by omega), show k % 4 = k - 12 by omega]
          · rw [if_neg c4, show s + k = s + 4 + 4 + 4 + 4 + (k - 16) by omega, jt_hi (by omega), show k % 4 = k - 16 by omega]
set_option maxHeartbeats 800000 in
set_option maxRecDepth 100000 in
theorem lp_fd {d n0 : Nat} {Q : Option jx_V → jx_H → Prop} {hm : jx_H} {s : Nat} {y1 y2 y3 y4 y5 : Int32} {B0 : Nat → Int32} (B : Nat → Int32) (k : Nat) (x7 : Option jx_V) (hs : s + 20 ≤ 1700) (t2 : jh_I hm 11 0 2 = nI s) (hk : k ≤ 20) (h1 : ∀ j, j < s → B j = B0 j) (h2 : ∀ j, j < k → B (s + j) = jt_m (jt_v y1 y2 y3 y4 y5 j) (nI j &&& 3)) (kk : ∀ (B : Nat → Int32) (y7 : Option jx_V), (∀ j, j < s → B j = B0 j) → (∀ j, j < 20 → B (s + j) = jt_m (jt_v y1 y2 y3 y4 y5 j) (nI j &&& 3)) → jx_W (jm_MD_feed, d + 2, 0, 0, false, 1, n0) Q 0 0 54 [some (jv_r 11 0), some (jv_i y1), some (jv_i y2), some (jv_i y3), some (jv_i y4), some (jv_i y5), some (jv_i (nI 20)), y7] [] (ju_I hm 64 0 B))  : jx_W (jm_MD_feed, d + 2, 0, 0, false, 1, n0) Q 0 0 10 [some (jv_r 11 0), some (jv_i y1), some (jv_i y2), some (jv_i y3), some (jv_i y4), some (jv_i y5), some (jv_i (nI k)), x7] [] (ju_I hm 64 0 B) := by
  refine jr_iload rfl rfl ?_
  refine jr_ic rfl ?_
  refine jr_icmp_ge rfl (fun c12 => ?_) (fun c12 => ?_)
  · have hk2 : k = 20 := by have := jn_le (show nI 20 ≤ nI k from c12) (by decide) (by omega); omega
    subst hk2
    exact kk B _ h1 h2
  · have hk1 : k < 20 := jn_nle (show ¬ nI 20 ≤ nI k from c12) (by decide) (by omega)
    refine jr_iload rfl rfl ?_
    refine jr_ic rfl ?_
    refine jr_icmp_ge rfl (fun c15 => ?_) (fun c15 => ?_)
    · refine jr_iload rfl rfl ?_
      refine jr_ic rfl ?_
      refine jr_icmp_ge rfl (fun c20 => ?_) (fun c20 => ?_)
      · refine jr_iload rfl rfl ?_
        refine jr_ic rfl ?_
        refine jr_icmp_ge rfl (fun c25 => ?_) (fun c25 => ?_)
        · refine jr_iload rfl rfl ?_
          refine jr_ic rfl ?_
          refine jr_icmp_ge rfl (fun c30 => ?_) (fun c30 => ?_)
          · refine jr_iload rfl rfl ?_
            refine jr_ist7 rfl rfl ?_
            refine jr_aload rfl rfl ?_
            refine jr_getR rfl rfl rfl rfl (Or.inl rfl) ?_
            refine jr_aload rfl rfl ?_
            refine jr_getI rfl rfl ?_
            refine jr_iload rfl rfl ?_
            refine jr_iadd rfl ?_
            refine jr_iload rfl rfl ?_
            refine jr_ic rfl ?_
            refine jr_ic rfl ?_
            refine jr_iload rfl rfl ?_
            refine jr_ic rfl ?_
            refine jr_iand rfl ?_
            refine jr_imul rfl ?_
            refine jr_isub rfl ?_
            refine jr_ishr rfl ?_
            refine jr_i2b rfl ?_
            refine jr_bast (len := 1720) rfl rfl (jn_add (show jh_I (ju_I hm 64 0 B) 11 0 2 = nI s from t2) rfl) (by omega) ?_
            rw [jg_II, jg_uu]
            refine jr_iinc6 rfl rfl ?_
            refine jr_goto rfl ?_
            have g15 : ¬ k < 4 := Nat.not_lt.mpr (jn_le (show nI 4 ≤ nI k from c15) (by decide) (by omega))
            have g20 : ¬ k < 8 := Nat.not_lt.mpr (jn_le (show nI 8 ≤ nI k from c20) (by decide) (by omega))
            have g25 : ¬ k < 12 := Nat.not_lt.mpr (jn_le (show nI 12 ≤ nI k from c25) (by decide) (by omega))
            have g30 : ¬ k < 16 := Nat.not_lt.mpr (jn_le (show nI 16 ≤ nI k from c30) (by decide) (by omega))
            rw [jn_S]
            refine lp_fd _ (k + 1) _ hs t2 (by omega) (fun j hj => ?_) (fun j hj => ?_) kk
            · exact (jg_un (by omega)).trans (h1 j hj)
            · by_cases z : j = k
              · rw [z]
                refine (jg_us _ _ _).trans ?_
                unfold jt_v
                rw [if_neg g15, if_neg g20, if_neg g25, if_neg g30]
                rfl
              · exact (jg_un (by omega)).trans (h2 j (by omega))
          · refine jr_iload rfl rfl ?_
            refine jr_goto rfl ?_
            refine jr_ist7 rfl rfl ?_
            refine jr_aload rfl rfl ?_
            refine jr_getR rfl rfl rfl rfl (Or.inl rfl) ?_
            refine jr_aload rfl rfl ?_
            refine jr_getI rfl rfl ?_
            refine jr_iload rfl rfl ?_
            refine jr_iadd rfl ?_
            refine jr_iload rfl rfl ?_
            refine jr_ic rfl ?_
            refine jr_ic rfl ?_
            refine jr_iload rfl rfl ?_
            refine jr_ic rfl ?_
            refine jr_iand rfl ?_
            refine jr_imul rfl ?_
            refine jr_isub rfl ?_
            refine jr_ishr rfl ?_
            refine jr_i2b rfl ?_
            refine jr_bast (len := 1720) rfl rfl (jn_add (show jh_I (ju_I hm 64 0 B) 11 0 2 = nI s from t2) rfl) (by omega) ?_
            rw [jg_II, jg_uu]
            refine jr_iinc6 rfl rfl ?_
            refine jr_goto rfl ?_
            have g15 : ¬ k < 4 := Nat.not_lt.mpr (jn_le (show nI 4 ≤ nI k from c15) (by decide) (by omega))
            have g20 : ¬ k < 8 := Nat.not_lt.mpr (jn_le (show nI 8 ≤ nI k from c20) (by decide) (by omega))
            have g25 : ¬ k < 12 := Nat.not_lt.mpr (jn_le (show nI 12 ≤ nI k from c25) (by decide) (by omega))
            have g30 : k < 16 := jn_nle (show ¬ nI 16 ≤ nI k from c30) (by decide) (by omega)
            rw [jn_S]
            refine lp_fd _ (k + 1) _ hs t2 (by omega) (fun j hj => ?_) (fun j hj => ?_) kk
            · exact (jg_un (by omega)).trans (h1 j hj)
            · by_cases z : j = k
              · rw [z]
                refine (jg_us _ _ _).trans ?_
                unfold jt_v
                rw [if_neg g15, if_neg g20, if_neg g25, if_pos g30]
                rfl
              · exact (jg_un (by omega)).trans (h2 j (by omega))
        · refine jr_iload rfl rfl ?_
          refine jr_goto rfl ?_
          refine jr_ist7 rfl rfl ?_
          refine jr_aload rfl rfl ?_
          refine jr_getR rfl rfl rfl rfl (Or.inl rfl) ?_
          refine jr_aload rfl rfl ?_
          refine jr_getI rfl rfl ?_
          refine jr_iload rfl rfl ?_
          refine jr_iadd rfl ?_
          refine jr_iload rfl rfl ?_
          refine jr_ic rfl ?_
          refine jr_ic rfl ?_
          refine jr_iload rfl rfl ?_
          refine jr_ic rfl ?_
          refine jr_iand rfl ?_
          refine jr_imul rfl ?_
          refine jr_isub rfl ?_
          refine jr_ishr rfl ?_
          refine jr_i2b rfl ?_
          refine jr_bast (len := 1720) rfl rfl (jn_add (show jh_I (ju_I hm 64 0 B) 11 0 2 = nI s from t2) rfl) (by omega) ?_
          rw [jg_II, jg_uu]
          refine jr_iinc6 rfl rfl ?_
          refine jr_goto rfl ?_
          have g15 : ¬ k < 4 := Nat.not_lt.mpr (jn_le (show nI 4 ≤ nI k from c15) (by decide) (by omega))
          have g20 : ¬ k < 8 := Nat.not_lt.mpr (jn_le (show nI 8 ≤ nI k from c20) (by decide) (by omega))
          have g25 : k < 12 := jn_nle (show ¬ nI 12 ≤ nI k from c25) (by decide) (by omega)
          rw [jn_S]
          refine lp_fd _ (k + 1) _ hs t2 (by omega) (fun j hj => ?_) (fun j hj => ?_) kk
          · exact (jg_un (by omega)).trans (h1 j hj)
          · by_cases z : j = k
            · rw [z]
              refine (jg_us _ _ _).trans ?_
              unfold jt_v
              rw [if_neg g15, if_neg g20, if_pos g25]
              rfl
            · exact (jg_un (by omega)).trans (h2 j (by omega))
      · refine jr_iload rfl rfl ?_
        refine jr_goto rfl ?_
        refine jr_ist7 rfl rfl ?_
        refine jr_aload rfl rfl ?_
        refine jr_getR rfl rfl rfl rfl (Or.inl rfl) ?_
        refine jr_aload rfl rfl ?_
        refine jr_getI rfl rfl ?_
        refine jr_iload rfl rfl ?_
        refine jr_iadd rfl ?_
        refine jr_iload rfl rfl ?_
        refine jr_ic rfl ?_
        refine jr_ic rfl ?_
        refine jr_iload rfl rfl ?_
        refine jr_ic rfl ?_
        refine jr_iand rfl ?_
        refine jr_imul rfl ?_
        refine jr_isub rfl ?_
        refine jr_ishr rfl ?_
        refine jr_i2b rfl ?_
        refine jr_bast (len := 1720) rfl rfl (jn_add (show jh_I (ju_I hm 64 0 B) 11 0 2 = nI s from t2) rfl) (by omega) ?_
        rw [jg_II, jg_uu]
        refine jr_iinc6 rfl rfl ?_
        refine jr_goto rfl ?_
        have g15 : ¬ k < 4 := Nat.not_lt.mpr (jn_le (show nI 4 ≤ nI k from c15) (by decide) (by omega))
        have g20 : k < 8 := jn_nle (show ¬ nI 8 ≤ nI k from c20) (by decide) (by omega)
        rw [jn_S]
        refine lp_fd _ (k + 1) _ hs t2 (by omega) (fun j hj => ?_) (fun j hj => ?_) kk
        · exact (jg_un (by omega)).trans (h1 j hj)
        · by_cases z : j = k
          · rw [z]
            refine (jg_us _ _ _).trans ?_
            unfold jt_v
            rw [if_neg g15, if_pos g20]
            rfl
          · exact (jg_un (by omega)).trans (h2 j (by omega))
    · refine jr_iload rfl rfl ?_
      refine jr_goto rfl ?_
      refine jr_ist7 rfl rfl ?_
      refine jr_aload rfl rfl ?_
      refine jr_getR rfl rfl rfl rfl (Or.inl rfl) ?_
      refine jr_aload rfl rfl ?_
      refine jr_getI rfl rfl ?_
      refine jr_iload rfl rfl ?_
      refine jr_iadd rfl ?_
      refine jr_iload rfl rfl ?_
      refine jr_ic rfl ?_
      refine jr_ic rfl ?_
      refine jr_iload rfl rfl ?_
      refine jr_ic rfl ?_
      refine jr_iand rfl ?_
      refine jr_imul rfl ?_
      refine jr_isub rfl ?_
      refine jr_ishr rfl ?_
      refine jr_i2b rfl ?_
      refine jr_bast (len := 1720) rfl rfl (jn_add (show jh_I (ju_I hm 64 0 B) 11 0 2 = nI s from t2) rfl) (by omega) ?_
      rw [jg_II, jg_uu]
      refine jr_iinc6 rfl rfl ?_
      refine jr_goto rfl ?_
      have g15 : k < 4 := jn_nle (show ¬ nI 4 ≤ nI k from c15) (by decide) (by omega)
      rw [jn_S]
      refine lp_fd _ (k + 1) _ hs t2 (by omega) (fun j hj => ?_) (fun j hj => ?_) kk
      · exact (jg_un (by omega)).trans (h1 j hj)
      · by_cases z : j = k
        · rw [z]
          refine (jg_us _ _ _).trans ?_
          unfold jt_v
          rw [if_pos g15]
          rfl
        · exact (jg_un (by omega)).trans (h2 j (by omega))
termination_by 20 - k
decreasing_by all_goals omega

theorem lp_fd0 {d n0 : Nat} {Q : Option jx_V → jx_H → Prop} {hm : jx_H} {s : Nat} {y1 y2 y3 y4 y5 : Int32} (k : Nat) (x7 : Option jx_V) (hs : s + 20 ≤ 1700) (t2 : jh_I hm 11 0 2 = nI s) (hk : k ≤ 20) (h1 : ∀ j, j < s → jh_I hm 64 0 j = jh_I hm 64 0 j) (h2 : ∀ j, j < k → jh_I hm 64 0 (s + j) = jt_m (jt_v y1 y2 y3 y4 y5 j) (nI j &&& 3)) (kk : ∀ (B : Nat → Int32) (y7 : Option jx_V), (∀ j, j < s → B j = jh_I hm 64 0 j) → (∀ j, j < 20 → B (s + j) = jt_m (jt_v y1 y2 y3 y4 y5 j) (nI j &&& 3)) → jx_W (jm_MD_feed, d + 2, 0, 0, false, 1, n0) Q 0 0 54 [some (jv_r 11 0), some (jv_i y1), some (jv_i y2), some (jv_i y3), some (jv_i y4), some (jv_i y5), some (jv_i (nI 20)), y7] [] (ju_I hm 64 0 B)) : jx_W (jm_MD_feed, d + 2, 0, 0, false, 1, n0) Q 0 0 10 [some (jv_r 11 0), some (jv_i y1), some (jv_i y2), some (jv_i y3), some (jv_i y4), some (jv_i y5), some (jv_i (nI k)), x7] [] hm := by
  have := lp_fd (d := d) (n0 := n0) (Q := Q) (B0 := jh_I hm 64 0) (jh_I hm 64 0) k x7 hs t2 hk h1 h2 kk
  rw [jg_self] at this
  exact this
set_option maxHeartbeats 800000 in
set_option maxRecDepth 100000 in
theorem pd_feed {d : Nat} {hc hm : jx_H} {y1 y2 y3 y4 y5 : Int32} (hRel : jz_Rel hc hm) : jx_Ev jm_JV_feed (d + 40) 0 0 false 0 [jv_r 10 0, jv_i y1, jv_i y2, jv_i y3, jv_i y4, jv_i y5] hc (fun r hc' => jx_Ev jm_MD_feed (d + 40) 0 0 false 1 [jv_r 11 0, jv_i y1, jv_i y2, jv_i y3, jv_i y4, jv_i y5] hm (fun r' hm' => r = r' ∧ jz_Rel hc' hm')) := by
  have hRel0 := hRel
  obtain ⟨b, r, ⟨hw, hG, hr2, hto, hsp, hR, hA, hL⟩, hTa, hFa, hLy, hTi, hLe, hBo, hAc, hWo⟩ := hRel
  have hb2 := hw.2.1
  obtain ⟨s, t1, t2, t3, t4⟩ := hTa
  rcases Nat.lt_or_ge 1680 s with hs | hs
  · show jx_W (jm_JV_feed, d + 40, 0, 0, false, 0, _) _ 0 0 0 [some (jv_r 10 0), some (jv_i y1), some (jv_i y2), some (jv_i y3), some (jv_i y4), some (jv_i y5)] [] _
    refine jr_aload rfl rfl ?_
    refine jr_getR rfl rfl rfl rfl (Or.inl rfl) ?_
    refine jr_getI rfl rfl ?_
    refine jr_ic rfl ?_
    refine jr_iadd rfl ?_
    rw [show jh_I hc 9 0 5 + 20 = nI (s + 20) from jn_add t1 (jn_c 20)]
    refine jr_ic rfl ?_
    refine jr_icmp_le rfl (fun z => absurd z (nI_ge (a := 1700) (by omega) (by omega))) (fun _ => ?_)
    refine jr_ic rfl ?_
    refine jr_iret rfl rfl (Nat.zero_le _) (Nat.zero_le _) ?_
    show jx_W (jm_MD_feed, d + 40, 0, 0, false, 1, _) _ 0 0 0 [some _, some _, some _, some _, some _, some _, none, none] [] _
    refine jr_aload rfl rfl ?_
    refine jr_getI rfl rfl ?_
    refine jr_ic rfl ?_
    refine jr_iadd rfl ?_
    rw [show jh_I hm 11 0 2 + 20 = nI (s + 20) from jn_add t2 (jn_c 20)]
    refine jr_ic rfl ?_
    refine jr_icmp_le rfl (fun z => absurd z (nI_ge (a := 1700) (by omega) (by omega))) (fun _ => ?_)
    refine jr_ic rfl ?_
    refine jr_iret rfl rfl (Nat.zero_le _) (Nat.zero_le _) ?_
    first
      | exact ⟨rfl, hRel0⟩
      | (exfalso; omega)
  · show jx_W (jm_JV_feed, d + 40, 0, 0, false, 0, _) _ 0 0 0 [some (jv_r 10 0), some (jv_i y1), some (jv_i y2), some (jv_i y3), some (jv_i y4), some (jv_i y5)] [] _
    refine jr_aload rfl rfl ?_
    refine jr_getR rfl rfl rfl rfl (Or.inl rfl) ?_
    refine jr_getI rfl rfl ?_
    refine jr_ic rfl ?_
    refine jr_iadd rfl ?_
    rw [show jh_I hc 9 0 5 + 20 = nI (s + 20) from jn_add t1 (jn_c 20)]
    refine jr_ic rfl ?_
    refine jr_icmp_le rfl (fun _ => ?_) (fun z => absurd (nI_le (b := 1700) (by omega) (by decide)) z)
    refine jr_aload rfl rfl ?_
    refine jr_getR rfl rfl rfl rfl (Or.inl rfl) ?_
    refine jr_iload rfl rfl ?_
    refine jr_cv1 (mc' := 0) (ms' := 0) rfl jm_Tape_put_n jm_Tape_put_f rfl rfl rfl rfl rfl rfl rfl (Nat.zero_le _) (Nat.zero_le _) ?_
    refine ev_put0 t1 (by omega) ?_
    refine jr_aload rfl rfl ?_
    refine jr_getR rfl rfl rfl rfl (Or.inl rfl) ?_
    refine jr_iload rfl rfl ?_
    refine jr_cv1 (mc' := 0) (ms' := 0) rfl jm_Tape_put_n jm_Tape_put_f rfl rfl rfl rfl rfl rfl rfl (Nat.zero_le _) (Nat.zero_le _) ?_
    refine ev_put (by omega) ?_
    refine jr_aload rfl rfl ?_
    refine jr_getR rfl rfl rfl rfl (Or.inl rfl) ?_
    refine jr_iload rfl rfl ?_
    refine jr_cv1 (mc' := 0) (ms' := 0) rfl jm_Tape_put_n jm_Tape_put_f rfl rfl rfl rfl rfl rfl rfl (Nat.zero_le _) (Nat.zero_le _) ?_
    refine ev_put (by omega) ?_
    refine jr_aload rfl rfl ?_
    refine jr_getR rfl rfl rfl rfl (Or.inl rfl) ?_
    refine jr_iload rfl rfl ?_
    refine jr_cv1 (mc' := 0) (ms' := 0) rfl jm_Tape_put_n jm_Tape_put_f rfl rfl rfl rfl rfl rfl rfl (Nat.zero_le _) (Nat.zero_le _) ?_
    refine ev_put (by omega) ?_
    refine jr_aload rfl rfl ?_
    refine jr_getR rfl rfl rfl rfl (Or.inl rfl) ?_
    refine jr_iload rfl rfl ?_
    refine jr_cv1 (mc' := 0) (ms' := 0) rfl jm_Tape_put_n jm_Tape_put_f rfl rfl rfl rfl rfl rfl rfl (Nat.zero_le _) (Nat.zero_le _) ?_
    refine ev_put (by omega) ?_
    refine jr_aload rfl rfl ?_
    refine jr_getR rfl rfl rfl rfl (Or.inl rfl) ?_
    refine jr_getI rfl rfl ?_
    refine jr_iret rfl rfl (Nat.zero_le _) (Nat.zero_le _) ?_
    show jx_W (jm_MD_feed, d + 40, 0, 0, false, 1, _) _ 0 0 0 [some _, some _, some _, some _, some _, some _, none, none] [] _
    refine jr_aload rfl rfl ?_
    refine jr_getI rfl rfl ?_
    refine jr_ic rfl ?_
    refine jr_iadd rfl ?_
    rw [show jh_I hm 11 0 2 + 20 = nI (s + 20) from jn_add t2 (jn_c 20)]
    refine jr_ic rfl ?_
    refine jr_icmp_le rfl (fun _ => ?_) (fun z => absurd (nI_le (b := 1700) (by omega) (by decide)) z)
    refine jr_ic rfl ?_
    refine jr_ist6 rfl rfl ?_
    have hfd : True := trivial
    refine lp_fd0 0 _ (by omega) t2 (by omega) (fun j hj => rfl) (fun j hj => absurd hj (by omega)) (fun B y7 g1 g2 => ?_)
    refine jr_aload rfl rfl ?_
    refine jr_dup_r rfl ?_
    refine jr_getI rfl rfl ?_
    refine jr_ic rfl ?_
    refine jr_iadd rfl ?_
    refine jr_putI rfl rfl ?_
    refine jr_aload rfl rfl ?_
    refine jr_getI rfl rfl ?_
    refine jr_iret rfl rfl (Nat.zero_le _) (Nat.zero_le _) ?_
    exact ⟨congrArg (fun z => some (jv_i z)) (show nI (s + 4 + 4 + 4 + 4 + 4) = jh_I hm 11 0 2 + 20 by rw [t2]; exact (jn_add rfl (jn_c 20)).symm), jz_Rel_tp hRel0 rfl (show jh_I hm 11 0 2 + 20 = nI (s + 20) by rw [t2]; exact jn_add rfl (jn_c 20)) (by omega) (jt_same t4 g1 g2)⟩

