set_option maxHeartbeats 4000000 in
set_option maxRecDepth 100000 in
theorem ev_MD_personMany {d : Nat} {h : jx_H} {Q : Option jx_V → jx_H → Prop} {b : Nat} (hb : jh_I h 11 0 43 = nI b) (hb2 : b < 2) (hQ : Q (some (jv_i (jC h b 1 0))) h) : jx_Ev jm_MD_personMany (d) 0 0 false 1 [jv_r 11 0] h Q := by
  show jx_W (jm_MD_personMany, d, 0, 0, false, 1, jh_n h) Q 0 0 0 [some (jv_r 11 0)] [] h
  refine jr_aload rfl rfl ?_
  refine jr_getR rfl rfl rfl rfl (Or.inl rfl) ?_
  refine jr_aload rfl rfl ?_
  refine jr_getI rfl rfl ?_
  refine jr_iald (len := 2) rfl rfl hb (by omega) ?_
  refine jr_iret rfl rfl (Nat.zero_le _) (Nat.zero_le _) ?_
  exact hQ

set_option maxHeartbeats 4000000 in
set_option maxRecDepth 100000 in
theorem ev_MD_dueMany {d : Nat} {h : jx_H} {Q : Option jx_V → jx_H → Prop} {b : Nat} (hb : jh_I h 11 0 43 = nI b) (hb2 : b < 2) (hQ : Q (some (jv_i (jC h b 2 0))) h) : jx_Ev jm_MD_dueMany (d) 0 0 false 1 [jv_r 11 0] h Q := by
  show jx_W (jm_MD_dueMany, d, 0, 0, false, 1, jh_n h) Q 0 0 0 [some (jv_r 11 0)] [] h
  refine jr_aload rfl rfl ?_
  refine jr_getR rfl rfl rfl rfl (Or.inl rfl) ?_
  refine jr_aload rfl rfl ?_
  refine jr_getI rfl rfl ?_
  refine jr_iald (len := 2) rfl rfl hb (by omega) ?_
  refine jr_iret rfl rfl (Nat.zero_le _) (Nat.zero_le _) ?_
  exact hQ

set_option maxHeartbeats 4000000 in
set_option maxRecDepth 100000 in
theorem ev_MD_isPerson {d : Nat} {h : jx_H} {Q : Option jx_V → jx_H → Prop} {b : Nat} {p : Int32} (hb : jh_I h 11 0 43 = nI b) (hb2 : b < 2) (hQ : Q (some (jv_i (if 0 ≤ p ∧ p ≤ jC h b 1 0 - 1 then 1 else 0))) h) : jx_Ev jm_MD_isPerson (d + 1) 0 0 false 1 [jv_r 11 0, jv_i p] h Q := by
  show jx_W (jm_MD_isPerson, d + 1, 0, 0, false, 1, jh_n h) Q 0 0 0 [some (jv_r 11 0), some (jv_i p)] [] h
  refine jr_iload rfl rfl ?_
  refine jr_ic rfl ?_
  refine jr_aload rfl rfl ?_
  refine jr_cv0 (mc' := 0) (ms' := 0) rfl jm_MD_personMany_n jm_MD_personMany_f rfl rfl rfl rfl rfl rfl rfl (Nat.zero_le _) (Nat.zero_le _) ?_
  refine ev_MD_personMany hb hb2 ?_
  refine jr_ic rfl ?_
  refine jr_isub rfl ?_
  refine jr_cs3 (mc' := 0) (ms' := 0) rfl jm_MD_isIn_n jm_MD_isIn_f rfl rfl rfl rfl rfl (Nat.zero_le _) (Nat.zero_le _) ?_
  refine ev_MD_isIn ?_
  refine jr_zret rfl rfl jc_zb (Nat.zero_le _) (Nat.zero_le _) ?_
  exact hQ

set_option maxHeartbeats 4000000 in
set_option maxRecDepth 100000 in
theorem ev_MD_isDue {d : Nat} {h : jx_H} {Q : Option jx_V → jx_H → Prop} {b : Nat} {p : Int32} (hb : jh_I h 11 0 43 = nI b) (hb2 : b < 2) (hQ : Q (some (jv_i (if 0 ≤ p ∧ p ≤ jC h b 2 0 - 1 then 1 else 0))) h) : jx_Ev jm_MD_isDue (d + 1) 0 0 false 1 [jv_r 11 0, jv_i p] h Q := by
  show jx_W (jm_MD_isDue, d + 1, 0, 0, false, 1, jh_n h) Q 0 0 0 [some (jv_r 11 0), some (jv_i p)] [] h
  refine jr_iload rfl rfl ?_
  refine jr_ic rfl ?_
  refine jr_aload rfl rfl ?_
  refine jr_cv0 (mc' := 0) (ms' := 0) rfl jm_MD_dueMany_n jm_MD_dueMany_f rfl rfl rfl rfl rfl rfl rfl (Nat.zero_le _) (Nat.zero_le _) ?_
  refine ev_MD_dueMany hb hb2 ?_
  refine jr_ic rfl ?_
  refine jr_isub rfl ?_
  refine jr_cs3 (mc' := 0) (ms' := 0) rfl jm_MD_isIn_n jm_MD_isIn_f rfl rfl rfl rfl rfl (Nat.zero_le _) (Nat.zero_le _) ?_
  refine ev_MD_isIn ?_
  refine jr_zret rfl rfl jc_zb (Nat.zero_le _) (Nat.zero_le _) ?_
  exact hQ

set_option maxHeartbeats 4000000 in
set_option maxRecDepth 100000 in
theorem ev_MD_month {d : Nat} {h : jx_H} {Q : Option jx_V → jx_H → Prop} {b : Nat} (hb : jh_I h 11 0 43 = nI b) (hb2 : b < 2) (hm : ¬ jC h b 0 0 = 0) (hQ : Q (some (jv_i (jw_month (jC h b) (jA h)))) h) : jx_Ev jm_MD_month (d) 0 0 false 1 [jv_r 11 0] h Q := by
  show jx_W (jm_MD_month, d, 0, 0, false, 1, jh_n h) Q 0 0 0 [some (jv_r 11 0)] [] h
  refine jr_aload rfl rfl ?_
  refine jr_getR rfl rfl rfl rfl (Or.inl rfl) ?_
  refine jr_ic rfl ?_
  refine jr_iald (len := 337) rfl rfl (jn_c 0) (by omega) ?_
  refine jr_aload rfl rfl ?_
  refine jr_getR rfl rfl rfl rfl (Or.inl rfl) ?_
  refine jr_aload rfl rfl ?_
  refine jr_getI rfl rfl ?_
  refine jr_iald (len := 2) rfl rfl hb (by omega) ?_
  refine jr_irem rfl hm ?_
  refine jr_iret rfl rfl (Nat.zero_le _) (Nat.zero_le _) ?_
  exact hQ

set_option maxHeartbeats 4000000 in
set_option maxRecDepth 100000 in
theorem ev_MD_isForgiven {d : Nat} {h : jx_H} {Q : Option jx_V → jx_H → Prop} {x : Int32} (hQ : Q (some (jv_i (if (jA h 36 >>> (x &&& 31)) &&& 1 = 1 then 1 else 0))) h) : jx_Ev jm_MD_isForgiven (d) 0 0 false 1 [jv_r 11 0, jv_i x] h Q := by
  show jx_W (jm_MD_isForgiven, d, 0, 0, false, 1, jh_n h) Q 0 0 0 [some (jv_r 11 0), some (jv_i x)] [] h
  refine jr_aload rfl rfl ?_
  refine jr_getR rfl rfl rfl rfl (Or.inl rfl) ?_
  refine jr_ic rfl ?_
  refine jr_iald (len := 337) rfl rfl (jn_c 36) (by omega) ?_
  refine jr_iload rfl rfl ?_
  refine jr_ishr rfl ?_
  refine jr_ic rfl ?_
  refine jr_iand rfl ?_
  refine jr_ic rfl ?_
  refine jr_icmp_ne rfl (fun c9 => ?_) (fun c9 => ?_)
  · refine jr_ic rfl ?_
    refine jr_zret rfl rfl rfl (Nat.zero_le _) (Nat.zero_le _) ?_
    first | exact jq_pos hQ (by assumption) | exact jq_neg hQ (by assumption)
  · refine jr_ic rfl ?_
    refine jr_goto rfl ?_
    refine jr_zret rfl rfl rfl (Nat.zero_le _) (Nat.zero_le _) ?_
    first | exact jq_pos hQ (by assumption) | exact jq_neg hQ (by assumption)

set_option maxHeartbeats 4000000 in
set_option maxRecDepth 100000 in
theorem ev_MD_paidOn {d : Nat} {h : jx_H} {Q : Option jx_V → jx_H → Prop} {b j : Nat} {l : Int32} (hb : jh_I h 11 0 43 = nI b) (hb2 : b < 2) (hj : j < 12) (hQ : Q (some (jv_i (jw_paid (jC h b) j l))) h) : jx_Ev jm_MD_paidOn (d) 0 0 false 1 [jv_r 11 0, jv_i (nI j), jv_i l] h Q := by
  show jx_W (jm_MD_paidOn, d, 0, 0, false, 1, jh_n h) Q 0 0 0 [some (jv_r 11 0), some (jv_i (nI j)), some (jv_i l), none] [] h
  refine jr_aload rfl rfl ?_
  refine jr_getR rfl rfl rfl rfl (Or.inl rfl) ?_
  refine jr_ic rfl ?_
  refine jr_aload rfl rfl ?_
  refine jr_getI rfl rfl ?_
  refine jr_imul rfl ?_
  refine jr_iload rfl rfl ?_
  refine jr_iadd rfl ?_
  refine jr_iald (len := 24) rfl rfl (jn_add (jn_mul (jn_c 12) hb) rfl) (by omega) ?_
  refine jr_ist3 rfl rfl ?_
  refine jr_iload rfl rfl ?_
  refine jr_iload rfl rfl ?_
  refine jr_icmp_gt rfl (fun c12 => ?_) (fun c12 => ?_)
  · refine jr_aload rfl rfl ?_
    refine jr_getR rfl rfl rfl rfl (Or.inl rfl) ?_
    refine jr_ic rfl ?_
    refine jr_aload rfl rfl ?_
    refine jr_getI rfl rfl ?_
    refine jr_imul rfl ?_
    refine jr_iload rfl rfl ?_
    refine jr_iadd rfl ?_
    refine jr_zald (len := 24) rfl rfl (jn_add (jn_mul (jn_c 12) hb) rfl) (by omega) ?_
    refine jr_if_eq rfl (fun c24 => ?_) (fun c24 => ?_)
    · refine jr_ic rfl ?_
      refine jr_iret rfl rfl (Nat.zero_le _) (Nat.zero_le _) ?_
      unfold jw_paid at hQ; first | exact jq_pos hQ (by assumption) | exact jq_neg hQ (by assumption) | exact jq_pos (jq_pos hQ (by assumption)) (by assumption) | exact jq_neg (jq_pos hQ (by assumption)) (by assumption) | exact jq_pos (jq_neg hQ (by assumption)) (by assumption) | exact jq_neg (jq_neg hQ (by assumption)) (by assumption)
    · refine jr_iload rfl rfl ?_
      refine jr_goto rfl ?_
      refine jr_iret rfl rfl (Nat.zero_le _) (Nat.zero_le _) ?_
      unfold jw_paid at hQ; first | exact jq_pos hQ (by assumption) | exact jq_neg hQ (by assumption) | exact jq_pos (jq_pos hQ (by assumption)) (by assumption) | exact jq_neg (jq_pos hQ (by assumption)) (by assumption) | exact jq_pos (jq_neg hQ (by assumption)) (by assumption) | exact jq_neg (jq_neg hQ (by assumption)) (by assumption)
  · refine jr_iload rfl rfl ?_
    refine jr_goto rfl ?_
    refine jr_iret rfl rfl (Nat.zero_le _) (Nat.zero_le _) ?_
    unfold jw_paid at hQ; first | exact jq_pos hQ (by assumption) | exact jq_neg hQ (by assumption) | exact jq_pos (jq_pos hQ (by assumption)) (by assumption) | exact jq_neg (jq_pos hQ (by assumption)) (by assumption) | exact jq_pos (jq_neg hQ (by assumption)) (by assumption) | exact jq_neg (jq_neg hQ (by assumption)) (by assumption)

set_option maxHeartbeats 4000000 in
set_option maxRecDepth 100000 in
theorem ev_MD_sunUpper {d : Nat} {h : jx_H} {Q : Option jx_V → jx_H → Prop} {b : Nat} (hb : jh_I h 11 0 43 = nI b) (hb2 : b < 2) (hQ : Q (some (jv_i (jw_sunU (jC h b)))) h) : jx_Ev jm_MD_sunUpper (d) 0 0 false 1 [jv_r 11 0] h Q := by
  show jx_W (jm_MD_sunUpper, d, 0, 0, false, 1, jh_n h) Q 0 0 0 [some (jv_r 11 0)] [] h
  refine jr_aload rfl rfl ?_
  refine jr_getR rfl rfl rfl rfl (Or.inl rfl) ?_
  refine jr_aload rfl rfl ?_
  refine jr_getI rfl rfl ?_
  refine jr_zald (len := 2) rfl rfl hb (by omega) ?_
  refine jr_if_eq rfl (fun c5 => ?_) (fun c5 => ?_)
  · refine jr_ic rfl ?_
    refine jr_aload rfl rfl ?_
    refine jr_getR rfl rfl rfl rfl (Or.inl rfl) ?_
    refine jr_aload rfl rfl ?_
    refine jr_getI rfl rfl ?_
    refine jr_iald (len := 2) rfl rfl hb (by omega) ?_
    refine jr_imul rfl ?_
    refine jr_iret rfl rfl (Nat.zero_le _) (Nat.zero_le _) ?_
    unfold jw_sunU at hQ; first | exact jq_pos hQ (by assumption) | exact jq_neg hQ (by assumption) | exact jq_pos (jq_pos hQ (by assumption)) (by assumption) | exact jq_neg (jq_pos hQ (by assumption)) (by assumption) | exact jq_pos (jq_neg hQ (by assumption)) (by assumption) | exact jq_neg (jq_neg hQ (by assumption)) (by assumption)
  · refine jr_aload rfl rfl ?_
    refine jr_getR rfl rfl rfl rfl (Or.inl rfl) ?_
    refine jr_aload rfl rfl ?_
    refine jr_getI rfl rfl ?_
    refine jr_iald (len := 2) rfl rfl hb (by omega) ?_
    refine jr_goto rfl ?_
    refine jr_iret rfl rfl (Nat.zero_le _) (Nat.zero_le _) ?_
    unfold jw_sunU at hQ; first | exact jq_pos hQ (by assumption) | exact jq_neg hQ (by assumption) | exact jq_pos (jq_pos hQ (by assumption)) (by assumption) | exact jq_neg (jq_pos hQ (by assumption)) (by assumption) | exact jq_pos (jq_neg hQ (by assumption)) (by assumption) | exact jq_neg (jq_neg hQ (by assumption)) (by assumption)

set_option maxHeartbeats 4000000 in
set_option maxRecDepth 100000 in
theorem ev_MD_sunLower {d : Nat} {h : jx_H} {Q : Option jx_V → jx_H → Prop} {b : Nat} (hb : jh_I h 11 0 43 = nI b) (hb2 : b < 2) (hQ : Q (some (jv_i (jw_sunL (jC h b)))) h) : jx_Ev jm_MD_sunLower (d) 0 0 false 1 [jv_r 11 0] h Q := by
  show jx_W (jm_MD_sunLower, d, 0, 0, false, 1, jh_n h) Q 0 0 0 [some (jv_r 11 0)] [] h
  refine jr_aload rfl rfl ?_
  refine jr_getR rfl rfl rfl rfl (Or.inl rfl) ?_
  refine jr_aload rfl rfl ?_
  refine jr_getI rfl rfl ?_
  refine jr_zald (len := 2) rfl rfl hb (by omega) ?_
  refine jr_if_eq rfl (fun c5 => ?_) (fun c5 => ?_)
  · refine jr_ic rfl ?_
    refine jr_iret rfl rfl (Nat.zero_le _) (Nat.zero_le _) ?_
    unfold jw_sunL at hQ; first | exact jq_pos hQ (by assumption) | exact jq_neg hQ (by assumption) | exact jq_pos (jq_pos hQ (by assumption)) (by assumption) | exact jq_neg (jq_pos hQ (by assumption)) (by assumption) | exact jq_pos (jq_neg hQ (by assumption)) (by assumption) | exact jq_neg (jq_neg hQ (by assumption)) (by assumption)
  · refine jr_aload rfl rfl ?_
    refine jr_getR rfl rfl rfl rfl (Or.inl rfl) ?_
    refine jr_aload rfl rfl ?_
    refine jr_getI rfl rfl ?_
    refine jr_iald (len := 2) rfl rfl hb (by omega) ?_
    refine jr_goto rfl ?_
    refine jr_iret rfl rfl (Nat.zero_le _) (Nat.zero_le _) ?_
    unfold jw_sunL at hQ; first | exact jq_pos hQ (by assumption) | exact jq_neg hQ (by assumption) | exact jq_pos (jq_pos hQ (by assumption)) (by assumption) | exact jq_neg (jq_pos hQ (by assumption)) (by assumption) | exact jq_pos (jq_neg hQ (by assumption)) (by assumption) | exact jq_neg (jq_neg hQ (by assumption)) (by assumption)

set_option maxHeartbeats 4000000 in
set_option maxRecDepth 100000 in
theorem ev_MD_driftLower {d : Nat} {h : jx_H} {Q : Option jx_V → jx_H → Prop} {b : Nat} (hb : jh_I h 11 0 43 = nI b) (hb2 : b < 2) (hQ : Q (some (jv_i (jw_dL (jC h b)))) h) : jx_Ev jm_MD_driftLower (d + 1) 0 0 false 1 [jv_r 11 0] h Q := by
  show jx_W (jm_MD_driftLower, d + 1, 0, 0, false, 1, jh_n h) Q 0 0 0 [some (jv_r 11 0)] [] h
  refine jr_aload rfl rfl ?_
  refine jr_cv0 (mc' := 0) (ms' := 0) rfl jm_MD_sunLower_n jm_MD_sunLower_f rfl rfl rfl rfl rfl rfl rfl (Nat.zero_le _) (Nat.zero_le _) ?_
  refine ev_MD_sunLower hb hb2 ?_
  refine jr_aload rfl rfl ?_
  refine jr_getR rfl rfl rfl rfl (Or.inl rfl) ?_
  refine jr_aload rfl rfl ?_
  refine jr_getI rfl rfl ?_
  refine jr_iald (len := 2) rfl rfl hb (by omega) ?_
  refine jr_imul rfl ?_
  refine jr_iret rfl rfl (Nat.zero_le _) (Nat.zero_le _) ?_
  exact hQ

set_option maxHeartbeats 4000000 in
set_option maxRecDepth 100000 in
theorem ev_MD_driftUpper {d : Nat} {h : jx_H} {Q : Option jx_V → jx_H → Prop} {b : Nat} {x y : Int32} (hb : jh_I h 11 0 43 = nI b) (hb2 : b < 2) (hQ : Q (some (jv_i (jw_dU (jC h b) x y))) h) : jx_Ev jm_MD_driftUpper (d + 2) 0 0 false 1 [jv_r 11 0, jv_i x, jv_i y] h Q := by
  show jx_W (jm_MD_driftUpper, d + 2, 0, 0, false, 1, jh_n h) Q 0 0 0 [some (jv_r 11 0), some (jv_i x), some (jv_i y)] [] h
  refine jr_iload rfl rfl ?_
  refine jr_aload rfl rfl ?_
  refine jr_cv0 (mc' := 0) (ms' := 0) rfl jm_MD_driftLower_n jm_MD_driftLower_f rfl rfl rfl rfl rfl rfl rfl (Nat.zero_le _) (Nat.zero_le _) ?_
  refine ev_MD_driftLower hb hb2 ?_
  refine jr_imul rfl ?_
  refine jr_aload rfl rfl ?_
  refine jr_cv0 (mc' := 0) (ms' := 0) rfl jm_MD_sunUpper_n jm_MD_sunUpper_f rfl rfl rfl rfl rfl rfl rfl (Nat.zero_le _) (Nat.zero_le _) ?_
  refine ev_MD_sunUpper hb hb2 ?_
  refine jr_iload rfl rfl ?_
  refine jr_imul rfl ?_
  refine jr_isub rfl ?_
  refine jr_iret rfl rfl (Nat.zero_le _) (Nat.zero_le _) ?_
  exact hQ

set_option maxHeartbeats 4000000 in
set_option maxRecDepth 100000 in
theorem ev_MD_down {d : Nat} {h : jx_H} {Q : Option jx_V → jx_H → Prop} {x y : Int32} (hy : ¬ y = 0) (hQ : Q (some (jv_i (jw_down x y))) h) : jx_Ev jm_MD_down (d) 0 0 false 1 [jv_i x, jv_i y] h Q := by
  show jx_W (jm_MD_down, d, 0, 0, false, 1, jh_n h) Q 0 0 0 [some (jv_i x), some (jv_i y)] [] h
  refine jr_iload rfl rfl ?_
  refine jr_if_lt rfl (fun c1 => ?_) (fun c1 => ?_)
  · refine jr_iload rfl rfl ?_
    refine jr_ic rfl ?_
    refine jr_isub rfl ?_
    refine jr_iload rfl rfl ?_
    refine jr_isub rfl ?_
    refine jr_iload rfl rfl ?_
    refine jr_idiv rfl hy ?_
    refine jr_ineg rfl ?_
    refine jr_iret rfl rfl (Nat.zero_le _) (Nat.zero_le _) ?_
    unfold jw_down at hQ; first | exact jq_pos hQ (by assumption) | exact jq_neg hQ (by assumption) | exact jq_pos (jq_pos hQ (by assumption)) (by assumption) | exact jq_neg (jq_pos hQ (by assumption)) (by assumption) | exact jq_pos (jq_neg hQ (by assumption)) (by assumption) | exact jq_neg (jq_neg hQ (by assumption)) (by assumption)
  · refine jr_iload rfl rfl ?_
    refine jr_iload rfl rfl ?_
    refine jr_idiv rfl hy ?_
    refine jr_goto rfl ?_
    refine jr_iret rfl rfl (Nat.zero_le _) (Nat.zero_le _) ?_
    unfold jw_down at hQ; first | exact jq_pos hQ (by assumption) | exact jq_neg hQ (by assumption) | exact jq_pos (jq_pos hQ (by assumption)) (by assumption) | exact jq_neg (jq_pos hQ (by assumption)) (by assumption) | exact jq_pos (jq_neg hQ (by assumption)) (by assumption) | exact jq_neg (jq_neg hQ (by assumption)) (by assumption)

set_option maxHeartbeats 4000000 in
set_option maxRecDepth 100000 in
theorem lp_MD_common {d : Nat} {Q : Option jx_V → jx_H → Prop} {u v : Int32} {h : jx_H} {n0 : Nat} (x y : Int32) (hQ : Q (some (jv_i (jw_gcd x y))) h) : jx_W (jm_MD_common, d, 0, 0, false, 1, n0) Q 0 0 9 [some (jv_i u), some (jv_i v), some (jv_i x), some (jv_i y), none] [] h := by
  refine jr_iload rfl rfl ?_
  refine jr_if_eq rfl (fun c10 => ?_) (fun c10 => ?_)
  · refine jr_iload rfl rfl ?_
    refine jr_iret rfl rfl (Nat.zero_le _) (Nat.zero_le _) ?_
    rw [jw_gcd, dif_pos c10] at hQ; exact hQ
  · refine jr_iload rfl rfl ?_
    refine jr_iload rfl rfl ?_
    refine jr_irem rfl c10 ?_
    refine jr_ist4 rfl rfl ?_
    refine jr_iload rfl rfl ?_
    refine jr_ist2 rfl rfl ?_
    refine jr_iload rfl rfl ?_
    refine jr_ist3 rfl rfl ?_
    refine jr_goto rfl ?_
    exact jr_drop 4 (lp_MD_common _ _ (by rw [jw_gcd, dif_neg c10] at hQ; exact hQ))
termination_by y.toInt.natAbs
decreasing_by (exact jw_rem_lt c10)

set_option maxHeartbeats 4000000 in
set_option maxRecDepth 100000 in
theorem ev_MD_common {d : Nat} {h : jx_H} {Q : Option jx_V → jx_H → Prop} {x y : Int32} (hQ : Q (some (jv_i (jw_gcd (if 0 ≤ x then x else -x) y))) h) : jx_Ev jm_MD_common (d) 0 0 false 1 [jv_i x, jv_i y] h Q := by
  show jx_W (jm_MD_common, d, 0, 0, false, 1, jh_n h) Q 0 0 0 [some (jv_i x), some (jv_i y), none, none, none] [] h
  refine jr_iload rfl rfl ?_
  refine jr_if_ge rfl (fun c1 => ?_) (fun c1 => ?_)
  · refine jr_iload rfl rfl ?_
    refine jr_ist2 rfl rfl ?_
    refine jr_iload rfl rfl ?_
    refine jr_ist3 rfl rfl ?_
    exact lp_MD_common _ _ (by first | (rw [if_pos (by assumption)] at hQ; exact hQ) | (rw [if_neg (by assumption)] at hQ; exact hQ) | (rw [if_pos (Int32.not_lt.mp c1)] at hQ; exact hQ) | (rw [if_neg (Int32.not_le.mpr c1)] at hQ; exact hQ))
  · refine jr_iload rfl rfl ?_
    refine jr_ineg rfl ?_
    refine jr_goto rfl ?_
    refine jr_ist2 rfl rfl ?_
    refine jr_iload rfl rfl ?_
    refine jr_ist3 rfl rfl ?_
    exact lp_MD_common _ _ (by first | (rw [if_pos (by assumption)] at hQ; exact hQ) | (rw [if_neg (by assumption)] at hQ; exact hQ) | (rw [if_pos (Int32.not_lt.mp c1)] at hQ; exact hQ) | (rw [if_neg (Int32.not_le.mpr c1)] at hQ; exact hQ))

