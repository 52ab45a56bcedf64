set_option maxHeartbeats 800000 in
set_option maxRecDepth 100000 in
theorem ev_Rep_startOf {d : Nat} {h : jx_H} {Q : Option jx_V → jx_H → Prop} {r w : Nat} (hw6 : w < 6) (hQ : Q (some (jv_i (jh_I h 26 r w))) h) : jx_Ev jm_Rep_startOf (d) 0 0 false 0 [jv_r 7 r, jv_i (nI w)] h Q := by
  show jx_W (jm_Rep_startOf, d, 0, 0, false, 0, _) Q 0 0 0 [some (jv_r 7 r), some (jv_i (nI w))] [] _
  refine jr_iload rfl rfl ?_
  refine jr_if_lt rfl (fun z => absurd z (nI_pos (by omega))) (fun _ => ?_)
  refine jr_iload rfl rfl ?_
  refine jr_aload rfl rfl ?_
  refine jr_getR rfl rfl rfl rfl (Or.inl rfl) ?_
  refine jr_alen (so := 1) (len := 6) rfl rfl rfl rfl ?_
  refine jr_icmp_ge rfl (fun z => absurd z (nI_ge (a := w) (b := 6) hw6 (by decide))) (fun _ => ?_)
  refine jr_aload rfl rfl ?_
  refine jr_getR rfl rfl rfl rfl (Or.inl rfl) ?_
  refine jr_iload rfl rfl ?_
  refine jr_iald (len := 6) rfl rfl rfl (by omega) ?_
  refine jr_goto rfl ?_
  refine jr_iret rfl rfl (Nat.zero_le _) (Nat.zero_le _) ?_
  exact hQ

set_option maxHeartbeats 800000 in
set_option maxRecDepth 100000 in
theorem ev_Rep_endOf {d : Nat} {h : jx_H} {Q : Option jx_V → jx_H → Prop} {r w : Nat} (hw6 : w < 6) (hQ : Q (some (jv_i (jh_I h 27 r w))) h) : jx_Ev jm_Rep_endOf (d) 0 0 false 0 [jv_r 7 r, jv_i (nI w)] h Q := by
  show jx_W (jm_Rep_endOf, d, 0, 0, false, 0, _) Q 0 0 0 [some (jv_r 7 r), some (jv_i (nI w))] [] _
  refine jr_iload rfl rfl ?_
  refine jr_if_lt rfl (fun z => absurd z (nI_pos (by omega))) (fun _ => ?_)
  refine jr_iload rfl rfl ?_
  refine jr_aload rfl rfl ?_
  refine jr_getR rfl rfl rfl rfl (Or.inl rfl) ?_
  refine jr_alen (so := 1) (len := 6) rfl rfl rfl rfl ?_
  refine jr_icmp_ge rfl (fun z => absurd z (nI_ge (a := w) (b := 6) hw6 (by decide))) (fun _ => ?_)
  refine jr_aload rfl rfl ?_
  refine jr_getR rfl rfl rfl rfl (Or.inl rfl) ?_
  refine jr_iload rfl rfl ?_
  refine jr_iald (len := 6) rfl rfl rfl (by omega) ?_
  refine jr_goto rfl ?_
  refine jr_iret rfl rfl (Nat.zero_le _) (Nat.zero_le _) ?_
  exact hQ

set_option maxHeartbeats 800000 in
set_option maxRecDepth 100000 in
theorem ev_Rep_dueAt {d : Nat} {h : jx_H} {Q : Option jx_V → jx_H → Prop} {r w : Nat} (hw6 : w < 12) (hQ : Q (some (jv_r 2 (12 * r + w))) h) : jx_Ev jm_Rep_dueAt (d) 0 0 false 0 [jv_r 7 r, jv_i (nI w)] h Q := by
  show jx_W (jm_Rep_dueAt, d, 0, 0, false, 0, _) Q 0 0 0 [some (jv_r 7 r), some (jv_i (nI w))] [] _
  refine jr_iload rfl rfl ?_
  refine jr_if_lt rfl (fun z => absurd z (nI_pos (by omega))) (fun _ => ?_)
  refine jr_iload rfl rfl ?_
  refine jr_aload rfl rfl ?_
  refine jr_getR rfl rfl rfl rfl (Or.inl rfl) ?_
  refine jr_alen (so := 5) (len := 12) rfl rfl rfl rfl ?_
  refine jr_icmp_ge rfl (fun z => absurd z (nI_ge (a := w) (b := 12) hw6 (by decide))) (fun _ => ?_)
  refine jr_aload rfl rfl ?_
  refine jr_getR rfl rfl rfl rfl (Or.inl rfl) ?_
  refine jr_iload rfl rfl ?_
  refine jr_aald (so := 5) (len := 12) rfl rfl rfl rfl rfl rfl (by omega) (Or.inl rfl) ?_
  refine jr_goto rfl ?_
  refine jr_aret rfl rfl rfl (Nat.zero_le _) (Nat.zero_le _) ?_
  exact hQ

def jy_pd (h : jx_H) (i : Nat) (l : Int32) : Int32 := if l < jh_I h 2 i 3 then (if jh_I h 2 i 5 = 0 then 0 else l) else jh_I h 2 i 3
set_option maxHeartbeats 800000 in
set_option maxRecDepth 100000 in
theorem ev_Due_dayPaid {d : Nat} {h : jx_H} {Q : Option jx_V → jx_H → Prop} {i : Nat} {l : Int32} (hl : 0 ≤ l) (hQ : Q (some (jv_i (jy_pd h i l))) h) : jx_Ev jm_Due_dayPaid (d + 1) 0 0 false 0 [jv_r 2 i, jv_i l] h Q := by
  show jx_W (jm_Due_dayPaid, d + 1, 0, 0, false, 0, _) Q 0 0 0 [some (jv_r 2 i), some (jv_i l)] [] _
  refine jr_iload rfl rfl ?_
  refine jr_aload rfl rfl ?_
  refine jr_getI rfl rfl ?_
  refine jr_icmp_lt rfl (fun c3 => ?_) (fun c3 => ?_)
  · refine jr_aload rfl rfl ?_
    refine jr_getZ rfl rfl ?_
    refine jr_if_eq rfl (fun c9 => ?_) (fun c9 => ?_)
    · refine jr_ic rfl ?_
      refine jr_iret rfl rfl (Nat.zero_le _) (Nat.zero_le _) ?_
      unfold jy_pd at hQ
      first | exact hQ | exact jq_pos hQ (by assumption) | exact jq_neg hQ (by assumption) | exact jq_pos (jq_pos hQ (by assumption)) (by assumption) | exact jq_neg (jq_pos hQ (by assumption)) (by assumption)
    · refine jr_iload rfl rfl ?_
      refine jr_ic rfl ?_
      refine jr_cs2 (mc' := 0) (ms' := 0) rfl jm_Math_max_n jm_Math_max_f rfl rfl rfl rfl rfl (Nat.zero_le _) (Nat.zero_le _) ?_
      refine ev_Math_max ?_
      rw [if_pos hl]
      refine jr_goto rfl ?_
      refine jr_iret rfl rfl (Nat.zero_le _) (Nat.zero_le _) ?_
      unfold jy_pd at hQ
      first | exact hQ | exact jq_pos hQ (by assumption) | exact jq_neg hQ (by assumption) | exact jq_pos (jq_pos hQ (by assumption)) (by assumption) | exact jq_neg (jq_pos hQ (by assumption)) (by assumption)
  · refine jr_aload rfl rfl ?_
    refine jr_getI rfl rfl ?_
    refine jr_iret rfl rfl (Nat.zero_le _) (Nat.zero_le _) ?_
    unfold jy_pd at hQ
    first | exact hQ | exact jq_pos hQ (by assumption) | exact jq_neg hQ (by assumption) | exact jq_pos (jq_pos hQ (by assumption)) (by assumption) | exact jq_neg (jq_pos hQ (by assumption)) (by assumption)

theorem jy_pd_eq {h hm : jx_H} {r b d : Nat} {l : Int32} (hd : jy_due h r hm b d) : jy_pd h (12 * r + d) l = jw_paid (jC hm b) d l := by
  unfold jy_pd jw_paid
  rw [hd.2.2.2.1, hd.2.2.2.2.2]
abbrev jy_X (h : jx_H) (r : Nat) : Int32 := jh_I h 7 r 8 * jh_I h 7 r 0
set_option maxHeartbeats 800000 in
set_option maxRecDepth 100000 in
theorem ev_Cal_driftLower {d : Nat} {h : jx_H} {Q : Option jx_V → jx_H → Prop} {c r : Nat} (hrep : jh_M h 1 c 0 = r + 1) (hQ : Q (some (jv_i (if jy_X h r ≤ 1 then 1 else jy_X h r))) h) : jx_Ev jm_Cal_driftLower (d + 1) 0 0 false 0 [jv_r 1 c] h Q := by
  show jx_W (jm_Cal_driftLower, d + 1, 0, 0, false, 0, _) Q 0 0 0 [some (jv_r 1 c)] [] _
  refine jr_ic rfl ?_
  refine jr_aload rfl rfl ?_
  refine jr_getM rfl rfl rfl rfl hrep ?_
  refine jr_getI rfl rfl ?_
  refine jr_aload rfl rfl ?_
  refine jr_getM rfl rfl rfl rfl hrep ?_
  refine jr_getI rfl rfl ?_
  refine jr_imul rfl ?_
  refine jr_cs2 (mc' := 0) (ms' := 0) rfl jm_Math_max_n jm_Math_max_f rfl rfl rfl rfl rfl (Nat.zero_le _) (Nat.zero_le _) ?_
  refine ev_Math_max ?_
  refine jr_iret rfl rfl (Nat.zero_le _) (Nat.zero_le _) ?_
  exact hQ

set_option maxHeartbeats 800000 in
set_option maxRecDepth 100000 in
theorem ev_Cal_driftUpper {d : Nat} {h : jx_H} {Q : Option jx_V → jx_H → Prop} {c r : Nat} {x y : Int32} (hrep : jh_M h 1 c 0 = r + 1) (hQ : Q (some (jv_i ((jh_I h 1 c 3 + x) * (if jy_X h r ≤ 1 then 1 else jy_X h r) - (jh_I h 1 c 2 + y) * jh_I h 7 r 7))) h) : jx_Ev jm_Cal_driftUpper (d + 2) 0 0 false 0 [jv_r 1 c, jv_i x, jv_i y] h Q := by
  show jx_W (jm_Cal_driftUpper, d + 2, 0, 0, false, 0, _) Q 0 0 0 [some (jv_r 1 c), some (jv_i x), some (jv_i y)] [] _
  refine jr_aload rfl rfl ?_
  refine jr_getI rfl rfl ?_
  refine jr_iload rfl rfl ?_
  refine jr_iadd rfl ?_
  refine jr_aload rfl rfl ?_
  refine jr_cv0 (mc' := 0) (ms' := 0) rfl jm_Cal_driftLower_n jm_Cal_driftLower_f rfl rfl rfl rfl rfl rfl rfl (Nat.zero_le _) (Nat.zero_le _) ?_
  refine ev_Cal_driftLower hrep ?_
  refine jr_imul rfl ?_
  refine jr_aload rfl rfl ?_
  refine jr_getI rfl rfl ?_
  refine jr_iload rfl rfl ?_
  refine jr_iadd rfl ?_
  refine jr_aload rfl rfl ?_
  refine jr_getM rfl rfl rfl rfl hrep ?_
  refine jr_getI rfl rfl ?_
  refine jr_imul rfl ?_
  refine jr_isub rfl ?_
  refine jr_iret rfl rfl (Nat.zero_le _) (Nat.zero_le _) ?_
  exact hQ

theorem jy_dL {h hm : jx_H} {r b : Nat} (hw : jz_W hm b) (hmo : ¬ jC hm b 0 0 = 0) (hR : jy_R h r hm b) : (if jy_X h r ≤ 1 then 1 else jy_X h r) = jw_dL (jC hm b) := by
  obtain ⟨L, e, h1, h2⟩ := jz_dl hw hmo
  have e2 : jy_X h r = jw_dL (jC hm b) := by
    unfold jy_X jw_dL
    rw [hR.1, hR.2.2.2.2.2.2.2.1 hmo]
  rw [e2, e]
  by_cases h3 : L = 1
  · rw [h3, if_pos (by decide)]; rfl
  · rw [if_neg (show ¬ nI L ≤ 1 from nI_ge (a := 1) (b := L) (by omega) (by omega))]
theorem jy_dU {h hm : jx_H} {c r b : Nat} {x y : Int32} (hw : jz_W hm b) (hmo : ¬ jC hm b 0 0 = 0) (hA : jy_A h c r (jA hm)) (hR : jy_R h r hm b) :
    (jh_I h 1 c 3 + x) * (if jy_X h r ≤ 1 then 1 else jy_X h r) - (jh_I h 1 c 2 + y) * jh_I h 7 r 7 = jw_dU (jC hm b) (jA hm 1 + x) (jA hm 0 + y) := by
  unfold jw_dU
  rw [jy_dL hw hmo hR, hA.2.1, hA.2.2.1, hR.2.2.2.2.2.2.1, Int32.mul_comm (jw_sunU (jC hm b))]
/-- drift's numbers -/
theorem jz_su {h : jx_H} {b : Nat} (hw : jz_W h b) : ∃ u : Nat, jw_sunU (jC h b) = nI u ∧ u ≤ 18512 := by
  obtain ⟨-, -, ⟨⟨h1, h2⟩, -, -, -, -, h5, -⟩, -⟩ := hw
  unfold jw_sunU
  rw [show jC h b 0 0 = nI (jz_nm h b) from h1]
  rcases h5 with e | ⟨e, u, v, hu, -, hu2, -⟩
  · rw [if_pos e, show (30 : Int32) = nI 30 from rfl, pk_mul]
    exact ⟨_, rfl, by omega⟩
  · rw [if_neg (by rw [e]; decide)]
    exact ⟨u, hu, hu2⟩
theorem jw_dU_I {h : jx_H} {b t w L u : Nat} (hL : jw_dL (jC h b) = nI L) (hu : jw_sunU (jC h b) = nI u) (hL2 : L ≤ 594) (hu2 : u ≤ 18512) (ht : t ≤ 16000) (hw2 : w ≤ 512) : (jw_dU (jC h b) (nI t) (nI w)).toInt = (t * L : Int) - (u * w : Int) ∧ t * L ≤ 9504000 ∧ u * w ≤ 9478144 := by
  unfold jw_dU
  rw [hL, hu, pk_mul, pk_mul]
  have h1 : t * L ≤ 16000 * 594 := Nat.mul_le_mul ht hL2
  have h2 : u * w ≤ 18512 * 512 := Nat.mul_le_mul hu2 hw2
  rw [pk_sub_toInt (by omega) (by omega)]
  refine ⟨by push_cast; rfl, by omega, by omega⟩
/-- the class's cut drift of no days, and a length -/
theorem jz_drift {h : jx_H} {b : Nat} (hw : jz_W h b) (hm : ¬ jC h b 0 0 = 0) {L : Nat} (hL : jw_dL (jC h b) = nI L) (hL1 : 1 ≤ L) (hL2 : L ≤ 594) {v : Int32} (hv : v.toInt = (jw_dU (jC h b) (jA h 1 + 0) (jA h 0 + 1)).toInt / L) {l : Nat} (hl : l < 32) : v + nI l = jw_down (jw_dU (jC h b) (jA h 1 + nI l) (jA h 0 + 1)) (jw_dL (jC h b)) := by
  obtain ⟨u, hu, hu2⟩ := jz_su hw
  obtain ⟨-, -, -, ⟨w, t, h0, h1, hw2, ht2, -⟩, -⟩ := hw
  rw [show jA h 0 = nI w from h0, show jA h 1 = nI t from h1, show (1 : Int32) = nI 1 from rfl, show (0 : Int32) = nI 0 from rfl, nI_add, nI_add] at hv
  rw [show jA h 0 = nI w from h0, show jA h 1 = nI t from h1, show (1 : Int32) = nI 1 from rfl, nI_add, nI_add]
  obtain ⟨e1, b1, b2⟩ := jw_dU_I (t := t + 0) (w := w + 1) hL hu hL2 hu2 (by omega) (by omega)
  obtain ⟨e2, b3, -⟩ := jw_dU_I (t := t + l) (w := w + 1) hL hu hL2 hu2 (by omega) (by omega)
  have e3 := jw_down_I (x := jw_dU (jC h b) (nI (t + l)) (nI (w + 1))) hL1 hL2 (by rw [e2]; omega) (by rw [e2]; omega)
  rw [hL]
  have hp : (0 : Int) < (L : Int) := by omega
  have e4 : ((t + l : Nat) * L : Int) - (u * (w + 1 : Nat) : Int) = (((t + 0 : Nat) * L : Int) - (u * (w + 1 : Nat) : Int)) + l * L := by
    rw [show ((t + l : Nat) : Int) = t + l from by omega, Int.add_mul]
    rw [show ((t + 0 : Nat) : Int) = t from by omega]
    omega
  apply Int32.toInt_inj.mp
  rw [e3, e2, e4, Int.add_mul_ediv_right _ _ (by omega), Int32.toInt_add, hv, e1, nI_toInt (by omega)]
  generalize hX : ((t + 0 : Nat) * L : Int) - (u * (w + 1 : Nat) : Int) = X at *
  have g1 : X / L ≤ 9504000 := Int.le_trans (Int.ediv_le_ediv hp (show X ≤ 9504000 * L by
    have : (9504000 : Int) * 1 ≤ 9504000 * L := Int.mul_le_mul_of_nonneg_left (by omega) (by omega)
    omega)) (by rw [Int.mul_ediv_cancel _ (by omega)]; omega)
  have g2 : -9478144 ≤ X / L := (Int.le_ediv_iff_mul_le hp).mpr (by
    have : (9478144 : Int) * 1 ≤ 9478144 * L := Int.mul_le_mul_of_nonneg_left (by omega) (by omega)
    omega)
  exact jn_sm (by omega) (by omega)
