theorem jw_gcd_N {X Y : Nat} (hX : X < 2 ^ 31) (hY : Y < 2 ^ 31) (h0 : ¬ Y = 0) : jw_gcd (nI X) (nI Y) = jw_gcd (nI Y) (nI (X % Y)) := by
  rw [jw_gcd, dif_neg (nI_ne0 (by omega) hY), jn_rem hX hY (by omega)]
theorem jw_gcd_0 {X : Int32} : jw_gcd X (nI 0) = X := by rw [jw_gcd, dif_pos (show nI 0 = 0 from rfl)]
theorem jn_mh {X Y : Nat} (h0 : 0 < Y) (h : Y ≤ X) : Y * (X % Y) * 2 ≤ X * Y := by
  have h1 := Nat.div_add_mod X Y
  have h2 := Nat.mod_lt X h0
  have h3 : 1 ≤ X / Y := (Nat.one_le_div_iff h0).mpr h
  have h4 : X % Y * 2 ≤ X := by
    have : Y * 1 ≤ Y * (X / Y) := Nat.mul_le_mul_left Y h3
    omega
  have h5 : Y * (X % Y * 2) ≤ Y * X := Nat.mul_le_mul_left Y h4
  rw [Nat.mul_comm X Y, Nat.mul_assoc]
  exact h5
set_option maxHeartbeats 800000 in
set_option maxRecDepth 100000 in
theorem lp_common {d n0 : Nat} {Q : Option jx_V → jx_H → Prop} {h : jx_H} {u v : Int32} (i m X Y : Nat) (hX : X < 2 ^ 30) (h1 : 1 ≤ X) (hYX : Y ≤ X) (hm : X * Y < 2 ^ m) (him : i + m ≤ 98) (hQ : Q (some (jv_i (jw_gcd (nI X) (nI Y)))) h) : jx_W (jm_JV_commonDivisor, d + 1, 0, 0, false, 0, n0) Q 0 0 6 [some (jv_i u), some (jv_i v), some (jv_i (nI X)), some (jv_i (nI Y)), some (jv_i (nI i)), none] [] h := by
  refine jr_iload rfl rfl ?_
  refine jr_ic rfl ?_
  refine jr_icmp_ge rfl (fun z => absurd z (nI_ge (a := i) (b := 100) (by omega) (by decide))) (fun _ => ?_)
  refine jr_iload rfl rfl ?_
  refine jr_if_eq rfl (fun c10 => ?_) (fun c10 => ?_)
  · refine jr_iload rfl rfl ?_
    refine jr_ic rfl ?_
    refine jr_cs2 (mc' := 0) (ms' := 0) rfl jm_Math_max_n jm_Math_max_f rfl rfl rfl rfl rfl (Nat.zero_le _) (Nat.zero_le _) ?_
    refine ev_Math_max ?_
    rw [if_pos (show (1 : Int32) ≤ nI X from nI_le (a := 1) (b := X) h1 (by omega))]
    refine jr_iret rfl rfl (Nat.zero_le _) (Nat.zero_le _) ?_
    have hY0 : Y = 0 := jn_eq (b := 0) c10 (by omega) (by decide)
    rw [hY0, jw_gcd_0] at hQ
    exact hQ
  · have hY0 : ¬ Y = 0 := fun z => c10 (by rw [z]; rfl)
    have hml := Nat.mod_lt X (show 0 < Y by omega)
    obtain ⟨m, rfl⟩ : ∃ m', m = m' + 1 := by
      cases m with
      | zero => exfalso; have : X * Y = 0 := by omega
                rcases Nat.mul_eq_zero.mp this with z | z <;> omega
      | succ m => exact ⟨m, rfl⟩
    have hh := jn_mh (show 0 < Y by omega) hYX
    refine jr_iload rfl rfl ?_
    refine jr_iload rfl rfl ?_
    refine jr_irem rfl c10 ?_
    rw [jw_rem_s, jn_rem (by omega) (by omega) (by omega)]
    refine jr_ist5 rfl rfl ?_
    refine jr_iload rfl rfl ?_
    refine jr_ist2 rfl rfl ?_
    refine jr_iload rfl rfl ?_
    refine jr_ist3 rfl rfl ?_
    refine jr_iinc4 rfl rfl ?_
    refine jr_goto rfl ?_
    rw [jn_S]
    rw [jw_gcd_N (by omega) (by omega) hY0] at hQ
    exact jr_drop 5 (lp_common (i + 1) m Y (X % Y) (by omega) (by omega) (by omega) (by rw [Nat.pow_succ] at hm; omega) (by omega) hQ)
termination_by 100 - i
decreasing_by all_goals omega

theorem ev_common {d : Nat} {h : jx_H} {Q : Option jx_V → jx_H → Prop} {X Y : Nat} (hX : X < 2 ^ 30) (hY : Y < 2 ^ 10) (h1 : 1 ≤ Y) (hQ : Q (some (jv_i (jw_gcd (nI X) (nI Y)))) h) : jx_Ev jm_JV_commonDivisor (d + 1) 0 0 false 0 [jv_i (nI X), jv_i (nI Y)] h Q := by
  show jx_W (jm_JV_commonDivisor, d + 1, 0, 0, false, 0, _) Q 0 0 0 [some (jv_i (nI X)), some (jv_i (nI Y)), none, none, none, none] [] _
  refine jr_iload rfl rfl ?_
  refine jr_ist2 rfl rfl ?_
  refine jr_iload rfl rfl ?_
  refine jr_ist3 rfl rfl ?_
  refine jr_ic rfl ?_
  refine jr_ist4 rfl rfl ?_
  rcases Nat.lt_or_ge X Y with hlt | hge
  · skip
    refine jr_iload rfl rfl ?_
    refine jr_ic rfl ?_
    refine jr_icmp_ge rfl (fun z => absurd z (by decide)) (fun _ => ?_)
    refine jr_iload rfl rfl ?_
    refine jr_if_eq rfl (fun z => absurd z (nI_ne0 (by omega) (by omega))) (fun _ => ?_)
    refine jr_iload rfl rfl ?_
    refine jr_iload rfl rfl ?_
    refine jr_irem rfl (nI_ne0 (by omega) (by omega)) ?_
    rw [jw_rem_s, jn_rem (by omega) (by omega) (by omega), Nat.mod_eq_of_lt hlt]
    refine jr_ist5 rfl rfl ?_
    refine jr_iload rfl rfl ?_
    refine jr_ist2 rfl rfl ?_
    refine jr_iload rfl rfl ?_
    refine jr_ist3 rfl rfl ?_
    refine jr_iinc4 rfl rfl ?_
    refine jr_goto rfl ?_
    rw [jw_gcd_N (by omega) (by omega) (by omega), Nat.mod_eq_of_lt hlt] at hQ
    exact jr_drop 5 (lp_common 1 20 Y X (by omega) h1 (by omega) (by have : Y * X < 2 ^ 10 * 2 ^ 10 := Nat.mul_lt_mul'' hY (by omega); rw [← Nat.pow_add] at this; exact this) (by omega) hQ)
  · exact lp_common 0 40 X Y hX (by omega) hge (by have : X * Y < 2 ^ 30 * 2 ^ 10 := Nat.mul_lt_mul'' hX hY; rw [← Nat.pow_add] at this; exact this) (by omega) hQ
theorem jw_gcd_ne : ∀ {X Y : Nat}, X < 2 ^ 31 → Y < 2 ^ 31 → 1 ≤ Y → ¬ jw_gcd (nI X) (nI Y) = 0
  | X, Y, hX, hY, h1 => by
    rw [jw_gcd_N hX hY (by omega)]
    by_cases e : X % Y = 0
    · rw [e, jw_gcd_0]; exact nI_ne0 h1 hY
    · have hl := Nat.mod_lt X (show 0 < Y by omega)
      exact jw_gcd_ne hY (by omega) (by omega)
termination_by _ Y => Y
decreasing_by exact Nat.mod_lt _ (by omega)
set_option maxHeartbeats 800000 in
set_option maxRecDepth 100000 in
theorem pd_drift_0 {d : Nat} {hc hm : jx_H} (hRel : jz_Rel hc hm) : jx_Ev jm_JV_drift (d + 40) 0 0 false 0 [jv_r 10 0, jv_i 0] hc (fun r hc' => jx_Ev jm_MD_drift (d + 40) 0 0 false 1 [jv_r 11 0, jv_i 0] hm (fun r' hm' => r = r' ∧ jz_Rel hc' hm')) := by
  have hRel0 := hRel
  obtain ⟨b, r, ⟨hw, hG, hr2, hto, hsp, hR, hA, hL⟩, hTa, hFa, hLy, hTi, hLe, hBo, hAc, hWo⟩ := hRel
  have hb2 := hw.2.1
  have hnm := hw.2.2.1.1
  have hnm5 := hnm.2
  have km1 : (jh_I hc 7 r 0).toInt = (jz_nm hm b : Int) := by rw [hR.1]; exact (congrArg Int32.toInt hnm.1).trans (nI_toInt (by omega))
  have km2 : (jh_I hm 66 0 b).toInt = (jz_nm hm b : Int) := (congrArg Int32.toInt hnm.1).trans (nI_toInt (by omega))
  have km3 : (jh_I hm 66 0 b - 1).toInt = (jz_nm hm b : Int) - 1 := by rw [Int32.toInt_sub, km2, show (1 : Int32).toInt = 1 from rfl]; exact jn_sm (by omega) (by omega)
  obtain ⟨-, w, g1, g2, g3, g4⟩ := id hG
  obtain ⟨w', t, t1, t2, t3, t4, t5⟩ := id hw.2.2.2.1
  have ew : w' = w := jn_eq (t1.symm.trans g1) (by omega) (by omega)
  subst ew
  rcases Classical.em (jC hm b 0 0 = 0) with hmo | hmo
  · have hn0 : (jz_nm hm b : Int) = 0 := by rw [← km2]; exact congrArg Int32.toInt hmo
    have hnmz : jz_nm hm b = 0 := by omega
    have hw0 : w' = 0 := t5 hnmz
    have ht0 : t = 0 := by omega
    have hx : jy_X hc r = 0 := by unfold jy_X; rw [hR.1, show jC hm b 0 0 = 0 from hmo, Int32.mul_zero]
    have hd0 : jh_I hc 1 0 3 = 0 := by rw [hA.2.2.1, t2, ht0]; rfl
    have hw00 : jh_I hc 1 0 2 = 0 := by rw [hA.2.1, t1, hw0]; rfl
    show jx_W (jm_JV_drift, d + 40, 0, 0, false, 0, _) _ 0 0 0 [some (jv_r 10 0), some (jv_i 0), none, none, none] [] _
    refine jr_aload rfl rfl ?_
    refine jr_getR rfl rfl rfl rfl (Or.inl rfl) ?_
    refine jr_ic rfl ?_
    refine jr_ic rfl ?_
    refine jr_cv2 (mc' := 0) (ms' := 0) rfl jm_Cal_driftUpper_n jm_Cal_driftUpper_f rfl rfl rfl rfl rfl rfl rfl (Nat.zero_le _) (Nat.zero_le _) ?_
    refine ev_Cal_driftUpper hA.1 ?_
    rw [hx, hd0, hw00, Int32.add_zero, Int32.zero_mul, Int32.zero_mul, Int32.sub_self]
    refine jr_ist2 rfl rfl ?_
    refine jr_aload rfl rfl ?_
    refine jr_getR rfl rfl rfl rfl (Or.inl rfl) ?_
    refine jr_cv0 (mc' := 0) (ms' := 0) rfl jm_Cal_driftLower_n jm_Cal_driftLower_f rfl rfl rfl rfl rfl rfl rfl (Nat.zero_le _) (Nat.zero_le _) ?_
    refine ev_Cal_driftLower hA.1 ?_
    rw [hx, if_pos (by decide)]
    refine jr_ist3 rfl rfl ?_
    refine jr_iload rfl rfl ?_
    refine jr_cs1 (mc' := 0) (ms' := 0) rfl jm_Math_abs_n jm_Math_abs_f rfl rfl rfl rfl rfl (Nat.zero_le _) (Nat.zero_le _) ?_
    refine ev_Math_abs ?_
    rw [if_pos (by decide)]
    refine jr_iload rfl rfl ?_
    refine jr_cs2 (mc' := 0) (ms' := 0) rfl jm_JV_commonDivisor_n jm_JV_commonDivisor_f rfl rfl rfl rfl rfl (Nat.zero_le _) (Nat.zero_le _) ?_
    refine ev_common (X := 0) (Y := 1) (by decide) (by decide) (by decide) ?_
    rw [show jw_gcd (nI 0) (nI 1) = 1 from by rw [jw_gcd_N (by decide) (by decide) (by decide)]; exact jw_gcd_0]
    refine jr_ist4 rfl rfl ?_
    refine jr_iload rfl rfl ?_
    refine jr_lsw rfl ?_
    refine ⟨fun _ => ?_, fun z => absurd (by decide) z⟩
    refine jr_iload rfl rfl ?_
    refine jr_iload rfl rfl ?_
    refine jr_idiv rfl (by decide) ?_
    refine jr_iret rfl rfl (Nat.zero_le _) (Nat.zero_le _) ?_
    show jx_W (jm_MD_drift, d + 40, 0, 0, false, 1, _) _ 0 0 0 [some _, some _, none, none, none] [] _
    refine jr_iload rfl rfl ?_
    refine jr_ic rfl ?_
    refine jr_ic rfl ?_
    refine jr_cs3 (mc' := 0) (ms' := 0) rfl jm_MD_isIn_n jm_MD_isIn_f rfl rfl rfl rfl rfl (Nat.zero_le _) (Nat.zero_le _) ?_
    show jx_W (jm_MD_isIn, _, _, _, _, _, _) _ 0 0 0 [some _, some _, some _] [] _
    refine jr_iload rfl rfl ?_
    refine jr_iload rfl rfl ?_
    refine jr_icmp_lt rfl (fun z => absurd z (by decide)) (fun _ => ?_)
    refine jr_iload rfl rfl ?_
    refine jr_iload rfl rfl ?_
    refine jr_icmp_gt rfl (fun z => absurd z (by decide)) (fun _ => ?_)
    refine jr_ic rfl ?_
    refine jr_goto rfl ?_
    refine jr_zret rfl rfl rfl (Nat.zero_le _) (Nat.zero_le _) ?_
    refine jr_if_ne rfl (fun _ => ?_) (fun z => absurd z (by decide))
    refine jr_aload rfl rfl ?_
    refine jr_cv0 (mc' := 0) (ms' := 0) rfl jm_MD_hasMonths_n jm_MD_hasMonths_f rfl rfl rfl rfl rfl rfl rfl (Nat.zero_le _) (Nat.zero_le _) ?_
    show jx_W (jm_MD_hasMonths, _, _, _, _, _, _) _ 0 0 0 [some _] [] _
    refine jr_aload rfl rfl ?_
    refine jr_getR rfl rfl rfl rfl (Or.inl rfl) ?_
    refine jr_aload rfl rfl ?_
    refine jr_getI rfl rfl ?_
    refine jr_iald (len := 2) rfl rfl hw.1 (by omega) ?_
    refine jr_if_le rfl (fun m5MDhasMonths => ?_) (fun m5MDhasMonths => ?_)
    · refine jr_ic rfl ?_
      refine jr_zret rfl rfl rfl (Nat.zero_le _) (Nat.zero_le _) ?_
      refine jr_if_ne rfl (fun z => absurd (by decide) z) (fun _ => ?_)
      refine jr_iload rfl rfl ?_
      refine jr_iret rfl rfl (Nat.zero_le _) (Nat.zero_le _) ?_
      first
        | exact ⟨rfl, hRel0⟩
        | exact ⟨congrArg (fun z => some (jv_i z)) (show (0 : Int32) / 1 = 0 from rfl), hRel0⟩
        | exact ⟨congrArg (fun z => some (jv_i z)) (show (1 : Int32) / 1 = 1 from rfl), hRel0⟩
        | (exfalso; omega)
        | (exfalso; simp (disch := omega) only [Int32.lt_iff_toInt_lt, Int32.le_iff_toInt_le, ← Int32.toInt_inj, Int32.reduceToInt, nI_toInt] at m5MDhasMonths; done)
        | (exfalso; simp (disch := omega) only [Int32.lt_iff_toInt_lt, Int32.le_iff_toInt_le, ← Int32.toInt_inj, Int32.reduceToInt, nI_toInt] at m5MDhasMonths; omega)
    · refine jr_ic rfl ?_
      refine jr_goto rfl ?_
      refine jr_zret rfl rfl rfl (Nat.zero_le _) (Nat.zero_le _) ?_
      refine jr_if_ne rfl (fun _ => ?_) (fun z => absurd z (by decide))
      refine jr_aload rfl rfl ?_
      refine jr_aload rfl rfl ?_
      refine jr_getR rfl rfl rfl rfl (Or.inl rfl) ?_
      refine jr_ic rfl ?_
      refine jr_iald (len := 337) rfl rfl (show _ = nI 1 from rfl) (by decide) ?_
      refine jr_aload rfl rfl ?_
      refine jr_getR rfl rfl rfl rfl (Or.inl rfl) ?_
      refine jr_ic rfl ?_
      refine jr_iald (len := 337) rfl rfl (show _ = nI 0 from rfl) (by decide) ?_
      refine jr_cv2 (mc' := 0) (ms' := 0) rfl jm_MD_driftUpper_n jm_MD_driftUpper_f rfl rfl rfl rfl rfl rfl rfl (Nat.zero_le _) (Nat.zero_le _) ?_
      first
        | (exfalso; omega)
        | (exfalso; simp (disch := omega) only [Int32.lt_iff_toInt_lt, Int32.le_iff_toInt_le, ← Int32.toInt_inj, Int32.reduceToInt, nI_toInt] at m5MDhasMonths; done)
        | (exfalso; simp (disch := omega) only [Int32.lt_iff_toInt_lt, Int32.le_iff_toInt_le, ← Int32.toInt_inj, Int32.reduceToInt, nI_toInt] at m5MDhasMonths; omega)
  · have hn1 : 0 < jz_nm hm b := by
      rcases Nat.eq_zero_or_pos (jz_nm hm b) with e | e
      · rw [e] at hnm; exact absurd hnm.1 hmo
      · exact e
    obtain ⟨L, hL1, hL2, hL3⟩ := jz_dl hw hmo
    obtain ⟨u, hu1, hu2⟩ := jz_su hw
    obtain ⟨e1, b1, b2⟩ := jw_dU_I (t := t) (w := w') hL1 hu1 hL3 hu2 (by omega) (by omega)
    rw [← show jA hm 1 = nI t from t2, ← show jA hm 0 = nI w' from t1] at e1
    obtain ⟨U, hU⟩ : ∃ U, U = jw_dU (jC hm b) (jA hm 1) (jA hm 0) := ⟨_, rfl⟩
    rw [← hU] at e1
    obtain ⟨X, hX, hX2⟩ : ∃ X : Nat, (if 0 ≤ U then U else -U) = nI X ∧ X < 2 ^ 30 := by
      by_cases q : 0 ≤ U
      · rw [if_pos q]
        rw [Int32.le_iff_toInt_le] at q
        have z0 : (0 : Int32).toInt = 0 := rfl
        exact ⟨U.toInt.toNat, jn_int (by omega) (by omega), by omega⟩
      · rw [if_neg q]
        rw [Int32.le_iff_toInt_le] at q
        have z0 : (0 : Int32).toInt = 0 := rfl
        have e2 : (-U).toInt = -U.toInt := by rw [Int32.toInt_neg]; exact jn_sm (by omega) (by omega)
        exact ⟨(-U).toInt.toNat, jn_int (by omega) (by omega), by omega⟩
    have hne : ¬ jw_gcd (nI X) (nI L) = 0 := jw_gcd_ne (by omega) (by omega) hL2
    show jx_W (jm_JV_drift, d + 40, 0, 0, false, 0, _) _ 0 0 0 [some (jv_r 10 0), some (jv_i 0), none, none, none] [] _
    refine jr_aload rfl rfl ?_
    refine jr_getR rfl rfl rfl rfl (Or.inl rfl) ?_
    refine jr_ic rfl ?_
    refine jr_ic rfl ?_
    refine jr_cv2 (mc' := 0) (ms' := 0) rfl jm_Cal_driftUpper_n jm_Cal_driftUpper_f rfl rfl rfl rfl rfl rfl rfl (Nat.zero_le _) (Nat.zero_le _) ?_
    refine ev2_driftUpper hw hA hR hmo ?_
    rw [Int32.add_zero, Int32.add_zero, ← hU]
    refine jr_ist2 rfl rfl ?_
    refine jr_aload rfl rfl ?_
    refine jr_getR rfl rfl rfl rfl (Or.inl rfl) ?_
    refine jr_cv0 (mc' := 0) (ms' := 0) rfl jm_Cal_driftLower_n jm_Cal_driftLower_f rfl rfl rfl rfl rfl rfl rfl (Nat.zero_le _) (Nat.zero_le _) ?_
    refine ev2_driftLower hw hA hR hmo ?_
    rw [hL1]
    refine jr_ist3 rfl rfl ?_
    refine jr_iload rfl rfl ?_
    refine jr_cs1 (mc' := 0) (ms' := 0) rfl jm_Math_abs_n jm_Math_abs_f rfl rfl rfl rfl rfl (Nat.zero_le _) (Nat.zero_le _) ?_
    refine ev_Math_abs ?_
    rw [hX]
    refine jr_iload rfl rfl ?_
    refine jr_cs2 (mc' := 0) (ms' := 0) rfl jm_JV_commonDivisor_n jm_JV_commonDivisor_f rfl rfl rfl rfl rfl (Nat.zero_le _) (Nat.zero_le _) ?_
    refine ev_common hX2 (by omega) hL2 ?_
    refine jr_ist4 rfl rfl ?_
    refine jr_iload rfl rfl ?_
    refine jr_lsw rfl ?_
    refine ⟨fun _ => ?_, fun z => absurd (by decide) z⟩
    refine jr_iload rfl rfl ?_
    refine jr_iload rfl rfl ?_
    refine jr_idiv rfl hne ?_
    refine jr_iret rfl rfl (Nat.zero_le _) (Nat.zero_le _) ?_
    show jx_W (jm_MD_drift, d + 40, 0, 0, false, 1, _) _ 0 0 0 [some _, some _, none, none, none] [] _
    refine jr_iload rfl rfl ?_
    refine jr_ic rfl ?_
    refine jr_ic rfl ?_
    refine jr_cs3 (mc' := 0) (ms' := 0) rfl jm_MD_isIn_n jm_MD_isIn_f rfl rfl rfl rfl rfl (Nat.zero_le _) (Nat.zero_le _) ?_
    show jx_W (jm_MD_isIn, _, _, _, _, _, _) _ 0 0 0 [some _, some _, some _] [] _
    refine jr_iload rfl rfl ?_
    refine jr_iload rfl rfl ?_
    refine jr_icmp_lt rfl (fun z => absurd z (by decide)) (fun _ => ?_)
    refine jr_iload rfl rfl ?_
    refine jr_iload rfl rfl ?_
    refine jr_icmp_gt rfl (fun z => absurd z (by decide)) (fun _ => ?_)
    refine jr_ic rfl ?_
    refine jr_goto rfl ?_
    refine jr_zret rfl rfl rfl (Nat.zero_le _) (Nat.zero_le _) ?_
    refine jr_if_ne rfl (fun _ => ?_) (fun z => absurd z (by decide))
    refine jr_aload rfl rfl ?_
    refine jr_cv0 (mc' := 0) (ms' := 0) rfl jm_MD_hasMonths_n jm_MD_hasMonths_f rfl rfl rfl rfl rfl rfl rfl (Nat.zero_le _) (Nat.zero_le _) ?_
    show jx_W (jm_MD_hasMonths, _, _, _, _, _, _) _ 0 0 0 [some _] [] _
    refine jr_aload rfl rfl ?_
    refine jr_getR rfl rfl rfl rfl (Or.inl rfl) ?_
    refine jr_aload rfl rfl ?_
    refine jr_getI rfl rfl ?_
    refine jr_iald (len := 2) rfl rfl hw.1 (by omega) ?_
    refine jr_if_le rfl (fun m5MDhasMonths => ?_) (fun m5MDhasMonths => ?_)
    · refine jr_ic rfl ?_
      refine jr_zret rfl rfl rfl (Nat.zero_le _) (Nat.zero_le _) ?_
      refine jr_if_ne rfl (fun z => absurd (by decide) z) (fun _ => ?_)
      refine jr_iload rfl rfl ?_
      refine jr_iret rfl rfl (Nat.zero_le _) (Nat.zero_le _) ?_
      first
        | exact ⟨rfl, hRel0⟩
        | (exfalso; omega)
        | (exfalso; simp (disch := omega) only [Int32.lt_iff_toInt_lt, Int32.le_iff_toInt_le, ← Int32.toInt_inj, Int32.reduceToInt, nI_toInt] at m5MDhasMonths; done)
        | (exfalso; simp (disch := omega) only [Int32.lt_iff_toInt_lt, Int32.le_iff_toInt_le, ← Int32.toInt_inj, Int32.reduceToInt, nI_toInt] at m5MDhasMonths; omega)
    · refine jr_ic rfl ?_
      refine jr_goto rfl ?_
      refine jr_zret rfl rfl rfl (Nat.zero_le _) (Nat.zero_le _) ?_
      refine jr_if_ne rfl (fun _ => ?_) (fun z => absurd z (by decide))
      refine jr_aload rfl rfl ?_
      refine jr_aload rfl rfl ?_
      refine jr_getR rfl rfl rfl rfl (Or.inl rfl) ?_
      refine jr_ic rfl ?_
      refine jr_iald (len := 337) rfl rfl (show _ = nI 1 from rfl) (by decide) ?_
      refine jr_aload rfl rfl ?_
      refine jr_getR rfl rfl rfl rfl (Or.inl rfl) ?_
      refine jr_ic rfl ?_
      refine jr_iald (len := 337) rfl rfl (show _ = nI 0 from rfl) (by decide) ?_
      refine jr_cv2 (mc' := 0) (ms' := 0) rfl jm_MD_driftUpper_n jm_MD_driftUpper_f rfl rfl rfl rfl rfl rfl rfl (Nat.zero_le _) (Nat.zero_le _) ?_
      refine ev_MD_driftUpper (b := b) hw.1 hb2 ?_
      rw [show jw_dU (jC hm b) (jh_I hm 98 0 1) (jh_I hm 98 0 0) = U from hU.symm]
      refine jr_ist2 rfl rfl ?_
      refine jr_aload rfl rfl ?_
      refine jr_cv0 (mc' := 0) (ms' := 0) rfl jm_MD_driftLower_n jm_MD_driftLower_f rfl rfl rfl rfl rfl rfl rfl (Nat.zero_le _) (Nat.zero_le _) ?_
      refine ev_MD_driftLower (b := b) hw.1 hb2 ?_
      rw [hL1]
      refine jr_ist3 rfl rfl ?_
      refine jr_iload rfl rfl ?_
      refine jr_iload rfl rfl ?_
      refine jr_cs2 (mc' := 0) (ms' := 0) rfl jm_MD_common_n jm_MD_common_f rfl rfl rfl rfl rfl (Nat.zero_le _) (Nat.zero_le _) ?_
      refine ev_MD_common ?_
      rw [hX]
      refine jr_ist4 rfl rfl ?_
      refine jr_iload rfl rfl ?_
      refine jr_if_ne rfl (fun z => absurd (by decide) z) (fun _ => ?_)
      refine jr_iload rfl rfl ?_
      refine jr_iload rfl rfl ?_
      refine jr_idiv rfl hne ?_
      refine jr_goto rfl ?_
      refine jr_iret rfl rfl (Nat.zero_le _) (Nat.zero_le _) ?_
      first
        | exact ⟨rfl, hRel0⟩
        | (exfalso; omega)
        | (exfalso; simp (disch := omega) only [Int32.lt_iff_toInt_lt, Int32.le_iff_toInt_le, ← Int32.toInt_inj, Int32.reduceToInt, nI_toInt] at m5MDhasMonths; done)
        | (exfalso; simp (disch := omega) only [Int32.lt_iff_toInt_lt, Int32.le_iff_toInt_le, ← Int32.toInt_inj, Int32.reduceToInt, nI_toInt] at m5MDhasMonths; omega)

set_option maxHeartbeats 800000 in
set_option maxRecDepth 100000 in
theorem pd_drift_1 {d : Nat} {hc hm : jx_H} (hRel : jz_Rel hc hm) : jx_Ev jm_JV_drift (d + 40) 0 0 false 0 [jv_r 10 0, jv_i 1] hc (fun r hc' => jx_Ev jm_MD_drift (d + 40) 0 0 false 1 [jv_r 11 0, jv_i 1] hm (fun r' hm' => r = r' ∧ jz_Rel hc' hm')) := by
  have hRel0 := hRel
  obtain ⟨b, r, ⟨hw, hG, hr2, hto, hsp, hR, hA, hL⟩, hTa, hFa, hLy, hTi, hLe, hBo, hAc, hWo⟩ := hRel
  have hb2 := hw.2.1
  have hnm := hw.2.2.1.1
  have hnm5 := hnm.2
  have km1 : (jh_I hc 7 r 0).toInt = (jz_nm hm b : Int) := by rw [hR.1]; exact (congrArg Int32.toInt hnm.1).trans (nI_toInt (by omega))
  have km2 : (jh_I hm 66 0 b).toInt = (jz_nm hm b : Int) := (congrArg Int32.toInt hnm.1).trans (nI_toInt (by omega))
  have km3 : (jh_I hm 66 0 b - 1).toInt = (jz_nm hm b : Int) - 1 := by rw [Int32.toInt_sub, km2, show (1 : Int32).toInt = 1 from rfl]; exact jn_sm (by omega) (by omega)
  obtain ⟨-, w, g1, g2, g3, g4⟩ := id hG
  obtain ⟨w', t, t1, t2, t3, t4, t5⟩ := id hw.2.2.2.1
  have ew : w' = w := jn_eq (t1.symm.trans g1) (by omega) (by omega)
  subst ew
  rcases Classical.em (jC hm b 0 0 = 0) with hmo | hmo
  · have hn0 : (jz_nm hm b : Int) = 0 := by rw [← km2]; exact congrArg Int32.toInt hmo
    have hnmz : jz_nm hm b = 0 := by omega
    have hw0 : w' = 0 := t5 hnmz
    have ht0 : t = 0 := by omega
    have hx : jy_X hc r = 0 := by unfold jy_X; rw [hR.1, show jC hm b 0 0 = 0 from hmo, Int32.mul_zero]
    have hd0 : jh_I hc 1 0 3 = 0 := by rw [hA.2.2.1, t2, ht0]; rfl
    have hw00 : jh_I hc 1 0 2 = 0 := by rw [hA.2.1, t1, hw0]; rfl
    show jx_W (jm_JV_drift, d + 40, 0, 0, false, 0, _) _ 0 0 0 [some (jv_r 10 0), some (jv_i 1), none, none, none] [] _
    refine jr_aload rfl rfl ?_
    refine jr_getR rfl rfl rfl rfl (Or.inl rfl) ?_
    refine jr_ic rfl ?_
    refine jr_ic rfl ?_
    refine jr_cv2 (mc' := 0) (ms' := 0) rfl jm_Cal_driftUpper_n jm_Cal_driftUpper_f rfl rfl rfl rfl rfl rfl rfl (Nat.zero_le _) (Nat.zero_le _) ?_
    refine ev_Cal_driftUpper hA.1 ?_
    rw [hx, hd0, hw00, Int32.add_zero, Int32.zero_mul, Int32.zero_mul, Int32.sub_self]
    refine jr_ist2 rfl rfl ?_
    refine jr_aload rfl rfl ?_
    refine jr_getR rfl rfl rfl rfl (Or.inl rfl) ?_
    refine jr_cv0 (mc' := 0) (ms' := 0) rfl jm_Cal_driftLower_n jm_Cal_driftLower_f rfl rfl rfl rfl rfl rfl rfl (Nat.zero_le _) (Nat.zero_le _) ?_
    refine ev_Cal_driftLower hA.1 ?_
    rw [hx, if_pos (by decide)]
    refine jr_ist3 rfl rfl ?_
    refine jr_iload rfl rfl ?_
    refine jr_cs1 (mc' := 0) (ms' := 0) rfl jm_Math_abs_n jm_Math_abs_f rfl rfl rfl rfl rfl (Nat.zero_le _) (Nat.zero_le _) ?_
    refine ev_Math_abs ?_
    rw [if_pos (by decide)]
    refine jr_iload rfl rfl ?_
    refine jr_cs2 (mc' := 0) (ms' := 0) rfl jm_JV_commonDivisor_n jm_JV_commonDivisor_f rfl rfl rfl rfl rfl (Nat.zero_le _) (Nat.zero_le _) ?_
    refine ev_common (X := 0) (Y := 1) (by decide) (by decide) (by decide) ?_
    rw [show jw_gcd (nI 0) (nI 1) = 1 from by rw [jw_gcd_N (by decide) (by decide) (by decide)]; exact jw_gcd_0]
    refine jr_ist4 rfl rfl ?_
    refine jr_iload rfl rfl ?_
    refine jr_lsw rfl ?_
    refine ⟨fun z => absurd z (by decide), fun _ => ?_⟩
    refine ⟨fun _ => ?_, fun z => absurd (by decide) z⟩
    refine jr_iload rfl rfl ?_
    refine jr_iload rfl rfl ?_
    refine jr_idiv rfl (by decide) ?_
    refine jr_iret rfl rfl (Nat.zero_le _) (Nat.zero_le _) ?_
    show jx_W (jm_MD_drift, d + 40, 0, 0, false, 1, _) _ 0 0 0 [some _, some _, none, none, none] [] _
    refine jr_iload rfl rfl ?_
    refine jr_ic rfl ?_
    refine jr_ic rfl ?_
    refine jr_cs3 (mc' := 0) (ms' := 0) rfl jm_MD_isIn_n jm_MD_isIn_f rfl rfl rfl rfl rfl (Nat.zero_le _) (Nat.zero_le _) ?_
    show jx_W (jm_MD_isIn, _, _, _, _, _, _) _ 0 0 0 [some _, some _, some _] [] _
    refine jr_iload rfl rfl ?_
    refine jr_iload rfl rfl ?_
    refine jr_icmp_lt rfl (fun z => absurd z (by decide)) (fun _ => ?_)
    refine jr_iload rfl rfl ?_
    refine jr_iload rfl rfl ?_
    refine jr_icmp_gt rfl (fun z => absurd z (by decide)) (fun _ => ?_)
    refine jr_ic rfl ?_
    refine jr_goto rfl ?_
    refine jr_zret rfl rfl rfl (Nat.zero_le _) (Nat.zero_le _) ?_
    refine jr_if_ne rfl (fun _ => ?_) (fun z => absurd z (by decide))
    refine jr_aload rfl rfl ?_
    refine jr_cv0 (mc' := 0) (ms' := 0) rfl jm_MD_hasMonths_n jm_MD_hasMonths_f rfl rfl rfl rfl rfl rfl rfl (Nat.zero_le _) (Nat.zero_le _) ?_
    show jx_W (jm_MD_hasMonths, _, _, _, _, _, _) _ 0 0 0 [some _] [] _
    refine jr_aload rfl rfl ?_
    refine jr_getR rfl rfl rfl rfl (Or.inl rfl) ?_
    refine jr_aload rfl rfl ?_
    refine jr_getI rfl rfl ?_
    refine jr_iald (len := 2) rfl rfl hw.1 (by omega) ?_
    refine jr_if_le rfl (fun m5MDhasMonths => ?_) (fun m5MDhasMonths => ?_)
    · refine jr_ic rfl ?_
      refine jr_zret rfl rfl rfl (Nat.zero_le _) (Nat.zero_le _) ?_
      refine jr_if_ne rfl (fun z => absurd (by decide) z) (fun _ => ?_)
      refine jr_iload rfl rfl ?_
      refine jr_iret rfl rfl (Nat.zero_le _) (Nat.zero_le _) ?_
      first
        | exact ⟨rfl, hRel0⟩
        | exact ⟨congrArg (fun z => some (jv_i z)) (show (0 : Int32) / 1 = 0 from rfl), hRel0⟩
        | exact ⟨congrArg (fun z => some (jv_i z)) (show (1 : Int32) / 1 = 1 from rfl), hRel0⟩
        | (exfalso; omega)
        | (exfalso; simp (disch := omega) only [Int32.lt_iff_toInt_lt, Int32.le_iff_toInt_le, ← Int32.toInt_inj, Int32.reduceToInt, nI_toInt] at m5MDhasMonths; done)
        | (exfalso; simp (disch := omega) only [Int32.lt_iff_toInt_lt, Int32.le_iff_toInt_le, ← Int32.toInt_inj, Int32.reduceToInt, nI_toInt] at m5MDhasMonths; omega)
    · refine jr_ic rfl ?_
      refine jr_goto rfl ?_
      refine jr_zret rfl rfl rfl (Nat.zero_le _) (Nat.zero_le _) ?_
      refine jr_if_ne rfl (fun _ => ?_) (fun z => absurd z (by decide))
      refine jr_aload rfl rfl ?_
      refine jr_aload rfl rfl ?_
      refine jr_getR rfl rfl rfl rfl (Or.inl rfl) ?_
      refine jr_ic rfl ?_
      refine jr_iald (len := 337) rfl rfl (show _ = nI 1 from rfl) (by decide) ?_
      refine jr_aload rfl rfl ?_
      refine jr_getR rfl rfl rfl rfl (Or.inl rfl) ?_
      refine jr_ic rfl ?_
      refine jr_iald (len := 337) rfl rfl (show _ = nI 0 from rfl) (by decide) ?_
      refine jr_cv2 (mc' := 0) (ms' := 0) rfl jm_MD_driftUpper_n jm_MD_driftUpper_f rfl rfl rfl rfl rfl rfl rfl (Nat.zero_le _) (Nat.zero_le _) ?_
      first
        | (exfalso; omega)
        | (exfalso; simp (disch := omega) only [Int32.lt_iff_toInt_lt, Int32.le_iff_toInt_le, ← Int32.toInt_inj, Int32.reduceToInt, nI_toInt] at m5MDhasMonths; done)
        | (exfalso; simp (disch := omega) only [Int32.lt_iff_toInt_lt, Int32.le_iff_toInt_le, ← Int32.toInt_inj, Int32.reduceToInt, nI_toInt] at m5MDhasMonths; omega)
  · have hn1 : 0 < jz_nm hm b := by
      rcases Nat.eq_zero_or_pos (jz_nm hm b) with e | e
      · rw [e] at hnm; exact absurd hnm.1 hmo
      · exact e
    obtain ⟨L, hL1, hL2, hL3⟩ := jz_dl hw hmo
    obtain ⟨u, hu1, hu2⟩ := jz_su hw
    obtain ⟨e1, b1, b2⟩ := jw_dU_I (t := t) (w := w') hL1 hu1 hL3 hu2 (by omega) (by omega)
    rw [← show jA hm 1 = nI t from t2, ← show jA hm 0 = nI w' from t1] at e1
    obtain ⟨U, hU⟩ : ∃ U, U = jw_dU (jC hm b) (jA hm 1) (jA hm 0) := ⟨_, rfl⟩
    rw [← hU] at e1
    obtain ⟨X, hX, hX2⟩ : ∃ X : Nat, (if 0 ≤ U then U else -U) = nI X ∧ X < 2 ^ 30 := by
      by_cases q : 0 ≤ U
      · rw [if_pos q]
        rw [Int32.le_iff_toInt_le] at q
        have z0 : (0 : Int32).toInt = 0 := rfl
        exact ⟨U.toInt.toNat, jn_int (by omega) (by omega), by omega⟩
      · rw [if_neg q]
        rw [Int32.le_iff_toInt_le] at q
        have z0 : (0 : Int32).toInt = 0 := rfl
        have e2 : (-U).toInt = -U.toInt := by rw [Int32.toInt_neg]; exact jn_sm (by omega) (by omega)
        exact ⟨(-U).toInt.toNat, jn_int (by omega) (by omega), by omega⟩
    have hne : ¬ jw_gcd (nI X) (nI L) = 0 := jw_gcd_ne (by omega) (by omega) hL2
    show jx_W (jm_JV_drift, d + 40, 0, 0, false, 0, _) _ 0 0 0 [some (jv_r 10 0), some (jv_i 1), none, none, none] [] _
    refine jr_aload rfl rfl ?_
    refine jr_getR rfl rfl rfl rfl (Or.inl rfl) ?_
    refine jr_ic rfl ?_
    refine jr_ic rfl ?_
    refine jr_cv2 (mc' := 0) (ms' := 0) rfl jm_Cal_driftUpper_n jm_Cal_driftUpper_f rfl rfl rfl rfl rfl rfl rfl (Nat.zero_le _) (Nat.zero_le _) ?_
    refine ev2_driftUpper hw hA hR hmo ?_
    rw [Int32.add_zero, Int32.add_zero, ← hU]
    refine jr_ist2 rfl rfl ?_
    refine jr_aload rfl rfl ?_
    refine jr_getR rfl rfl rfl rfl (Or.inl rfl) ?_
    refine jr_cv0 (mc' := 0) (ms' := 0) rfl jm_Cal_driftLower_n jm_Cal_driftLower_f rfl rfl rfl rfl rfl rfl rfl (Nat.zero_le _) (Nat.zero_le _) ?_
    refine ev2_driftLower hw hA hR hmo ?_
    rw [hL1]
    refine jr_ist3 rfl rfl ?_
    refine jr_iload rfl rfl ?_
    refine jr_cs1 (mc' := 0) (ms' := 0) rfl jm_Math_abs_n jm_Math_abs_f rfl rfl rfl rfl rfl (Nat.zero_le _) (Nat.zero_le _) ?_
    refine ev_Math_abs ?_
    rw [hX]
    refine jr_iload rfl rfl ?_
    refine jr_cs2 (mc' := 0) (ms' := 0) rfl jm_JV_commonDivisor_n jm_JV_commonDivisor_f rfl rfl rfl rfl rfl (Nat.zero_le _) (Nat.zero_le _) ?_
    refine ev_common hX2 (by omega) hL2 ?_
    refine jr_ist4 rfl rfl ?_
    refine jr_iload rfl rfl ?_
    refine jr_lsw rfl ?_
    refine ⟨fun z => absurd z (by decide), fun _ => ?_⟩
    refine ⟨fun _ => ?_, fun z => absurd (by decide) z⟩
    refine jr_iload rfl rfl ?_
    refine jr_iload rfl rfl ?_
    refine jr_idiv rfl hne ?_
    refine jr_iret rfl rfl (Nat.zero_le _) (Nat.zero_le _) ?_
    show jx_W (jm_MD_drift, d + 40, 0, 0, false, 1, _) _ 0 0 0 [some _, some _, none, none, none] [] _
    refine jr_iload rfl rfl ?_
    refine jr_ic rfl ?_
    refine jr_ic rfl ?_
    refine jr_cs3 (mc' := 0) (ms' := 0) rfl jm_MD_isIn_n jm_MD_isIn_f rfl rfl rfl rfl rfl (Nat.zero_le _) (Nat.zero_le _) ?_
    show jx_W (jm_MD_isIn, _, _, _, _, _, _) _ 0 0 0 [some _, some _, some _] [] _
    refine jr_iload rfl rfl ?_
    refine jr_iload rfl rfl ?_
    refine jr_icmp_lt rfl (fun z => absurd z (by decide)) (fun _ => ?_)
    refine jr_iload rfl rfl ?_
    refine jr_iload rfl rfl ?_
    refine jr_icmp_gt rfl (fun z => absurd z (by decide)) (fun _ => ?_)
    refine jr_ic rfl ?_
    refine jr_goto rfl ?_
    refine jr_zret rfl rfl rfl (Nat.zero_le _) (Nat.zero_le _) ?_
    refine jr_if_ne rfl (fun _ => ?_) (fun z => absurd z (by decide))
    refine jr_aload rfl rfl ?_
    refine jr_cv0 (mc' := 0) (ms' := 0) rfl jm_MD_hasMonths_n jm_MD_hasMonths_f rfl rfl rfl rfl rfl rfl rfl (Nat.zero_le _) (Nat.zero_le _) ?_
    show jx_W (jm_MD_hasMonths, _, _, _, _, _, _) _ 0 0 0 [some _] [] _
    refine jr_aload rfl rfl ?_
    refine jr_getR rfl rfl rfl rfl (Or.inl rfl) ?_
    refine jr_aload rfl rfl ?_
    refine jr_getI rfl rfl ?_
    refine jr_iald (len := 2) rfl rfl hw.1 (by omega) ?_
    refine jr_if_le rfl (fun m5MDhasMonths => ?_) (fun m5MDhasMonths => ?_)
    · refine jr_ic rfl ?_
      refine jr_zret rfl rfl rfl (Nat.zero_le _) (Nat.zero_le _) ?_
      refine jr_if_ne rfl (fun z => absurd (by decide) z) (fun _ => ?_)
      refine jr_iload rfl rfl ?_
      refine jr_iret rfl rfl (Nat.zero_le _) (Nat.zero_le _) ?_
      first
        | exact ⟨rfl, hRel0⟩
        | (exfalso; omega)
        | (exfalso; simp (disch := omega) only [Int32.lt_iff_toInt_lt, Int32.le_iff_toInt_le, ← Int32.toInt_inj, Int32.reduceToInt, nI_toInt] at m5MDhasMonths; done)
        | (exfalso; simp (disch := omega) only [Int32.lt_iff_toInt_lt, Int32.le_iff_toInt_le, ← Int32.toInt_inj, Int32.reduceToInt, nI_toInt] at m5MDhasMonths; omega)
    · refine jr_ic rfl ?_
      refine jr_goto rfl ?_
      refine jr_zret rfl rfl rfl (Nat.zero_le _) (Nat.zero_le _) ?_
      refine jr_if_ne rfl (fun _ => ?_) (fun z => absurd z (by decide))
      refine jr_aload rfl rfl ?_
      refine jr_aload rfl rfl ?_
      refine jr_getR rfl rfl rfl rfl (Or.inl rfl) ?_
      refine jr_ic rfl ?_
      refine jr_iald (len := 337) rfl rfl (show _ = nI 1 from rfl) (by decide) ?_
      refine jr_aload rfl rfl ?_
      refine jr_getR rfl rfl rfl rfl (Or.inl rfl) ?_
      refine jr_ic rfl ?_
      refine jr_iald (len := 337) rfl rfl (show _ = nI 0 from rfl) (by decide) ?_
      refine jr_cv2 (mc' := 0) (ms' := 0) rfl jm_MD_driftUpper_n jm_MD_driftUpper_f rfl rfl rfl rfl rfl rfl rfl (Nat.zero_le _) (Nat.zero_le _) ?_
      refine ev_MD_driftUpper (b := b) hw.1 hb2 ?_
      rw [show jw_dU (jC hm b) (jh_I hm 98 0 1) (jh_I hm 98 0 0) = U from hU.symm]
      refine jr_ist2 rfl rfl ?_
      refine jr_aload rfl rfl ?_
      refine jr_cv0 (mc' := 0) (ms' := 0) rfl jm_MD_driftLower_n jm_MD_driftLower_f rfl rfl rfl rfl rfl rfl rfl (Nat.zero_le _) (Nat.zero_le _) ?_
      refine ev_MD_driftLower (b := b) hw.1 hb2 ?_
      rw [hL1]
      refine jr_ist3 rfl rfl ?_
      refine jr_iload rfl rfl ?_
      refine jr_iload rfl rfl ?_
      refine jr_cs2 (mc' := 0) (ms' := 0) rfl jm_MD_common_n jm_MD_common_f rfl rfl rfl rfl rfl (Nat.zero_le _) (Nat.zero_le _) ?_
      refine ev_MD_common ?_
      rw [hX]
      refine jr_ist4 rfl rfl ?_
      refine jr_iload rfl rfl ?_
      refine jr_if_ne rfl (fun _ => ?_) (fun z => absurd z (by decide))
      refine jr_iload rfl rfl ?_
      refine jr_iload rfl rfl ?_
      refine jr_idiv rfl hne ?_
      refine jr_iret rfl rfl (Nat.zero_le _) (Nat.zero_le _) ?_
      first
        | exact ⟨rfl, hRel0⟩
        | (exfalso; omega)
        | (exfalso; simp (disch := omega) only [Int32.lt_iff_toInt_lt, Int32.le_iff_toInt_le, ← Int32.toInt_inj, Int32.reduceToInt, nI_toInt] at m5MDhasMonths; done)
        | (exfalso; simp (disch := omega) only [Int32.lt_iff_toInt_lt, Int32.le_iff_toInt_le, ← Int32.toInt_inj, Int32.reduceToInt, nI_toInt] at m5MDhasMonths; omega)

theorem pd_drift_o {d : Nat} {hc hm : jx_H} {x : Int32} (hRel : jz_Rel hc hm) (hx0 : ¬ x = 0) (hx1 : ¬ x = 1) : jx_Ev jm_JV_drift (d + 40) 0 0 false 0 [jv_r 10 0, jv_i x] hc (fun r hc' => jx_Ev jm_MD_drift (d + 40) 0 0 false 1 [jv_r 11 0, jv_i x] hm (fun r' hm' => r = r' ∧ jz_Rel hc' hm')) := by
  have hRel0 := hRel
  obtain ⟨b, r, ⟨hw, hG, hr2, hto, hsp, hR, hA, hL⟩, hTa, hFa, hLy, hTi, hLe, hBo, hAc, hWo⟩ := hRel
  have hb2 := hw.2.1
  have hnm := hw.2.2.1.1
  have hnm5 := hnm.2
  have km1 : (jh_I hc 7 r 0).toInt = (jz_nm hm b : Int) := by rw [hR.1]; exact (congrArg Int32.toInt hnm.1).trans (nI_toInt (by omega))
  have km2 : (jh_I hm 66 0 b).toInt = (jz_nm hm b : Int) := (congrArg Int32.toInt hnm.1).trans (nI_toInt (by omega))
  have km3 : (jh_I hm 66 0 b - 1).toInt = (jz_nm hm b : Int) - 1 := by rw [Int32.toInt_sub, km2, show (1 : Int32).toInt = 1 from rfl]; exact jn_sm (by omega) (by omega)
  obtain ⟨-, w, g1, g2, g3, g4⟩ := id hG
  obtain ⟨w', t, t1, t2, t3, t4, t5⟩ := id hw.2.2.2.1
  have ew : w' = w := jn_eq (t1.symm.trans g1) (by omega) (by omega)
  subst ew
  simp only [← Int32.toInt_inj, Int32.reduceToInt] at hx0 hx1
  rcases Classical.em (jC hm b 0 0 = 0) with hmo | hmo
  · have hn0 : (jz_nm hm b : Int) = 0 := by rw [← km2]; exact congrArg Int32.toInt hmo
    have hnmz : jz_nm hm b = 0 := by omega
    have hw0 : w' = 0 := t5 hnmz
    have ht0 : t = 0 := by omega
    have hx : jy_X hc r = 0 := by unfold jy_X; rw [hR.1, show jC hm b 0 0 = 0 from hmo, Int32.mul_zero]
    have hd0 : jh_I hc 1 0 3 = 0 := by rw [hA.2.2.1, t2, ht0]; rfl
    have hw00 : jh_I hc 1 0 2 = 0 := by rw [hA.2.1, t1, hw0]; rfl
    show jx_W (jm_JV_drift, d + 40, 0, 0, false, 0, _) _ 0 0 0 [some (jv_r 10 0), some (jv_i x), none, none, none] [] _
    refine jr_aload rfl rfl ?_
    refine jr_getR rfl rfl rfl rfl (Or.inl rfl) ?_
    refine jr_ic rfl ?_
    refine jr_ic rfl ?_
    refine jr_cv2 (mc' := 0) (ms' := 0) rfl jm_Cal_driftUpper_n jm_Cal_driftUpper_f rfl rfl rfl rfl rfl rfl rfl (Nat.zero_le _) (Nat.zero_le _) ?_
    refine ev_Cal_driftUpper hA.1 ?_
    rw [hx, hd0, hw00, Int32.add_zero, Int32.zero_mul, Int32.zero_mul, Int32.sub_self]
    refine jr_ist2 rfl rfl ?_
    refine jr_aload rfl rfl ?_
    refine jr_getR rfl rfl rfl rfl (Or.inl rfl) ?_
    refine jr_cv0 (mc' := 0) (ms' := 0) rfl jm_Cal_driftLower_n jm_Cal_driftLower_f rfl rfl rfl rfl rfl rfl rfl (Nat.zero_le _) (Nat.zero_le _) ?_
    refine ev_Cal_driftLower hA.1 ?_
    rw [hx, if_pos (by decide)]
    refine jr_ist3 rfl rfl ?_
    refine jr_iload rfl rfl ?_
    refine jr_cs1 (mc' := 0) (ms' := 0) rfl jm_Math_abs_n jm_Math_abs_f rfl rfl rfl rfl rfl (Nat.zero_le _) (Nat.zero_le _) ?_
    refine ev_Math_abs ?_
    rw [if_pos (by decide)]
    refine jr_iload rfl rfl ?_
    refine jr_cs2 (mc' := 0) (ms' := 0) rfl jm_JV_commonDivisor_n jm_JV_commonDivisor_f rfl rfl rfl rfl rfl (Nat.zero_le _) (Nat.zero_le _) ?_
    refine ev_common (X := 0) (Y := 1) (by decide) (by decide) (by decide) ?_
    rw [show jw_gcd (nI 0) (nI 1) = 1 from by rw [jw_gcd_N (by decide) (by decide) (by decide)]; exact jw_gcd_0]
    refine jr_ist4 rfl rfl ?_
    refine jr_iload rfl rfl ?_
    refine jr_lsw rfl ?_
    refine ⟨fun c16 => ?_, fun n16_0 => ?_⟩
    · refine jr_iload rfl rfl ?_
      refine jr_iload rfl rfl ?_
      refine jr_idiv rfl (by decide) ?_
      refine jr_iret rfl rfl (Nat.zero_le _) (Nat.zero_le _) ?_
      show jx_W (jm_MD_drift, d + 40, 0, 0, false, 1, _) _ 0 0 0 [some _, some _, none, none, none] [] _
      refine jr_iload rfl rfl ?_
      refine jr_ic rfl ?_
      refine jr_ic rfl ?_
      refine jr_cs3 (mc' := 0) (ms' := 0) rfl jm_MD_isIn_n jm_MD_isIn_f rfl rfl rfl rfl rfl (Nat.zero_le _) (Nat.zero_le _) ?_
      show jx_W (jm_MD_isIn, _, _, _, _, _, _) _ 0 0 0 [some _, some _, some _] [] _
      refine jr_iload rfl rfl ?_
      refine jr_iload rfl rfl ?_
      refine jr_icmp_lt rfl (fun m2MDisIn => ?_) (fun m2MDisIn => ?_)
      · refine jr_ic rfl ?_
        refine jr_zret rfl rfl rfl (Nat.zero_le _) (Nat.zero_le _) ?_
        refine jr_if_ne rfl (fun z => absurd (by decide) z) (fun _ => ?_)
        refine jr_ic rfl ?_
        refine jr_iret rfl rfl (Nat.zero_le _) (Nat.zero_le _) ?_
        first
          | exact ⟨rfl, hRel0⟩
          | (exfalso; omega)
          | (exfalso; simp (disch := omega) only [Int32.lt_iff_toInt_lt, Int32.le_iff_toInt_le, ← Int32.toInt_inj, Int32.reduceToInt, nI_toInt] at c16 m2MDisIn; done)
          | (exfalso; simp (disch := omega) only [Int32.lt_iff_toInt_lt, Int32.le_iff_toInt_le, ← Int32.toInt_inj, Int32.reduceToInt, nI_toInt] at c16 m2MDisIn; omega)
      · refine jr_iload rfl rfl ?_
        refine jr_iload rfl rfl ?_
        refine jr_icmp_gt rfl (fun m5MDisIn => ?_) (fun m5MDisIn => ?_)
        · refine jr_ic rfl ?_
          refine jr_zret rfl rfl rfl (Nat.zero_le _) (Nat.zero_le _) ?_
          refine jr_if_ne rfl (fun z => absurd (by decide) z) (fun _ => ?_)
          refine jr_ic rfl ?_
          refine jr_iret rfl rfl (Nat.zero_le _) (Nat.zero_le _) ?_
          first
            | exact ⟨rfl, hRel0⟩
            | (exfalso; omega)
            | (exfalso; simp (disch := omega) only [Int32.lt_iff_toInt_lt, Int32.le_iff_toInt_le, ← Int32.toInt_inj, Int32.reduceToInt, nI_toInt] at c16 m2MDisIn m5MDisIn; done)
            | (exfalso; simp (disch := omega) only [Int32.lt_iff_toInt_lt, Int32.le_iff_toInt_le, ← Int32.toInt_inj, Int32.reduceToInt, nI_toInt] at c16 m2MDisIn m5MDisIn; omega)
        · refine jr_ic rfl ?_
          refine jr_goto rfl ?_
          refine jr_zret rfl rfl rfl (Nat.zero_le _) (Nat.zero_le _) ?_
          refine jr_if_ne rfl (fun _ => ?_) (fun z => absurd z (by decide))
          refine jr_aload rfl rfl ?_
          refine jr_cv0 (mc' := 0) (ms' := 0) rfl jm_MD_hasMonths_n jm_MD_hasMonths_f rfl rfl rfl rfl rfl rfl rfl (Nat.zero_le _) (Nat.zero_le _) ?_
          show jx_W (jm_MD_hasMonths, _, _, _, _, _, _) _ 0 0 0 [some _] [] _
          refine jr_aload rfl rfl ?_
          refine jr_getR rfl rfl rfl rfl (Or.inl rfl) ?_
          refine jr_aload rfl rfl ?_
          refine jr_getI rfl rfl ?_
          refine jr_iald (len := 2) rfl rfl hw.1 (by omega) ?_
          refine jr_if_le rfl (fun m5MDhasMonths => ?_) (fun m5MDhasMonths => ?_)
          · refine jr_ic rfl ?_
            refine jr_zret rfl rfl rfl (Nat.zero_le _) (Nat.zero_le _) ?_
            refine jr_if_ne rfl (fun z => absurd (by decide) z) (fun _ => ?_)
            refine jr_iload rfl rfl ?_
            refine jr_iret rfl rfl (Nat.zero_le _) (Nat.zero_le _) ?_
            first
              | exact ⟨rfl, hRel0⟩
              | (exfalso; omega)
              | (exfalso; simp (disch := omega) only [Int32.lt_iff_toInt_lt, Int32.le_iff_toInt_le, ← Int32.toInt_inj, Int32.reduceToInt, nI_toInt] at c16 m2MDisIn m5MDisIn m5MDhasMonths; done)
              | (exfalso; simp (disch := omega) only [Int32.lt_iff_toInt_lt, Int32.le_iff_toInt_le, ← Int32.toInt_inj, Int32.reduceToInt, nI_toInt] at c16 m2MDisIn m5MDisIn m5MDhasMonths; omega)
          · refine jr_ic rfl ?_
            refine jr_goto rfl ?_
            refine jr_zret rfl rfl rfl (Nat.zero_le _) (Nat.zero_le _) ?_
            refine jr_if_ne rfl (fun _ => ?_) (fun z => absurd z (by decide))
            refine jr_aload rfl rfl ?_
            refine jr_aload rfl rfl ?_
            refine jr_getR rfl rfl rfl rfl (Or.inl rfl) ?_
            refine jr_ic rfl ?_
            refine jr_iald (len := 337) rfl rfl (show _ = nI 1 from rfl) (by decide) ?_
            refine jr_aload rfl rfl ?_
            refine jr_getR rfl rfl rfl rfl (Or.inl rfl) ?_
            refine jr_ic rfl ?_
            refine jr_iald (len := 337) rfl rfl (show _ = nI 0 from rfl) (by decide) ?_
            refine jr_cv2 (mc' := 0) (ms' := 0) rfl jm_MD_driftUpper_n jm_MD_driftUpper_f rfl rfl rfl rfl rfl rfl rfl (Nat.zero_le _) (Nat.zero_le _) ?_
            first
              | (exfalso; omega)
              | (exfalso; simp (disch := omega) only [Int32.lt_iff_toInt_lt, Int32.le_iff_toInt_le, ← Int32.toInt_inj, Int32.reduceToInt, nI_toInt] at c16 m2MDisIn m5MDisIn m5MDhasMonths; done)
              | (exfalso; simp (disch := omega) only [Int32.lt_iff_toInt_lt, Int32.le_iff_toInt_le, ← Int32.toInt_inj, Int32.reduceToInt, nI_toInt] at c16 m2MDisIn m5MDisIn m5MDhasMonths; omega)
    · skip
      refine ⟨fun c16 => ?_, fun n16_1 => ?_⟩
      · refine jr_iload rfl rfl ?_
        refine jr_iload rfl rfl ?_
        refine jr_idiv rfl (by decide) ?_
        refine jr_iret rfl rfl (Nat.zero_le _) (Nat.zero_le _) ?_
        show jx_W (jm_MD_drift, d + 40, 0, 0, false, 1, _) _ 0 0 0 [some _, some _, none, none, none] [] _
        refine jr_iload rfl rfl ?_
        refine jr_ic rfl ?_
        refine jr_ic rfl ?_
        refine jr_cs3 (mc' := 0) (ms' := 0) rfl jm_MD_isIn_n jm_MD_isIn_f rfl rfl rfl rfl rfl (Nat.zero_le _) (Nat.zero_le _) ?_
        show jx_W (jm_MD_isIn, _, _, _, _, _, _) _ 0 0 0 [some _, some _, some _] [] _
        refine jr_iload rfl rfl ?_
        refine jr_iload rfl rfl ?_
        refine jr_icmp_lt rfl (fun m2MDisIn => ?_) (fun m2MDisIn => ?_)
        · refine jr_ic rfl ?_
          refine jr_zret rfl rfl rfl (Nat.zero_le _) (Nat.zero_le _) ?_
          refine jr_if_ne rfl (fun z => absurd (by decide) z) (fun _ => ?_)
          refine jr_ic rfl ?_
          refine jr_iret rfl rfl (Nat.zero_le _) (Nat.zero_le _) ?_
          first
            | exact ⟨rfl, hRel0⟩
            | (exfalso; omega)
            | (exfalso; simp (disch := omega) only [Int32.lt_iff_toInt_lt, Int32.le_iff_toInt_le, ← Int32.toInt_inj, Int32.reduceToInt, nI_toInt] at c16 m2MDisIn; done)
            | (exfalso; simp (disch := omega) only [Int32.lt_iff_toInt_lt, Int32.le_iff_toInt_le, ← Int32.toInt_inj, Int32.reduceToInt, nI_toInt] at c16 m2MDisIn; omega)
        · refine jr_iload rfl rfl ?_
          refine jr_iload rfl rfl ?_
          refine jr_icmp_gt rfl (fun m5MDisIn => ?_) (fun m5MDisIn => ?_)
          · refine jr_ic rfl ?_
            refine jr_zret rfl rfl rfl (Nat.zero_le _) (Nat.zero_le _) ?_
            refine jr_if_ne rfl (fun z => absurd (by decide) z) (fun _ => ?_)
            refine jr_ic rfl ?_
            refine jr_iret rfl rfl (Nat.zero_le _) (Nat.zero_le _) ?_
            first
              | exact ⟨rfl, hRel0⟩
              | (exfalso; omega)
              | (exfalso; simp (disch := omega) only [Int32.lt_iff_toInt_lt, Int32.le_iff_toInt_le, ← Int32.toInt_inj, Int32.reduceToInt, nI_toInt] at c16 m2MDisIn m5MDisIn; done)
              | (exfalso; simp (disch := omega) only [Int32.lt_iff_toInt_lt, Int32.le_iff_toInt_le, ← Int32.toInt_inj, Int32.reduceToInt, nI_toInt] at c16 m2MDisIn m5MDisIn; omega)
          · refine jr_ic rfl ?_
            refine jr_goto rfl ?_
            refine jr_zret rfl rfl rfl (Nat.zero_le _) (Nat.zero_le _) ?_
            refine jr_if_ne rfl (fun _ => ?_) (fun z => absurd z (by decide))
            refine jr_aload rfl rfl ?_
            refine jr_cv0 (mc' := 0) (ms' := 0) rfl jm_MD_hasMonths_n jm_MD_hasMonths_f rfl rfl rfl rfl rfl rfl rfl (Nat.zero_le _) (Nat.zero_le _) ?_
            show jx_W (jm_MD_hasMonths, _, _, _, _, _, _) _ 0 0 0 [some _] [] _
            refine jr_aload rfl rfl ?_
            refine jr_getR rfl rfl rfl rfl (Or.inl rfl) ?_
            refine jr_aload rfl rfl ?_
            refine jr_getI rfl rfl ?_
            refine jr_iald (len := 2) rfl rfl hw.1 (by omega) ?_
            refine jr_if_le rfl (fun m5MDhasMonths => ?_) (fun m5MDhasMonths => ?_)
            · refine jr_ic rfl ?_
              refine jr_zret rfl rfl rfl (Nat.zero_le _) (Nat.zero_le _) ?_
              refine jr_if_ne rfl (fun z => absurd (by decide) z) (fun _ => ?_)
              refine jr_iload rfl rfl ?_
              refine jr_iret rfl rfl (Nat.zero_le _) (Nat.zero_le _) ?_
              first
                | exact ⟨rfl, hRel0⟩
                | (exfalso; omega)
                | (exfalso; simp (disch := omega) only [Int32.lt_iff_toInt_lt, Int32.le_iff_toInt_le, ← Int32.toInt_inj, Int32.reduceToInt, nI_toInt] at c16 m2MDisIn m5MDisIn m5MDhasMonths; done)
                | (exfalso; simp (disch := omega) only [Int32.lt_iff_toInt_lt, Int32.le_iff_toInt_le, ← Int32.toInt_inj, Int32.reduceToInt, nI_toInt] at c16 m2MDisIn m5MDisIn m5MDhasMonths; omega)
            · refine jr_ic rfl ?_
              refine jr_goto rfl ?_
              refine jr_zret rfl rfl rfl (Nat.zero_le _) (Nat.zero_le _) ?_
              refine jr_if_ne rfl (fun _ => ?_) (fun z => absurd z (by decide))
              refine jr_aload rfl rfl ?_
              refine jr_aload rfl rfl ?_
              refine jr_getR rfl rfl rfl rfl (Or.inl rfl) ?_
              refine jr_ic rfl ?_
              refine jr_iald (len := 337) rfl rfl (show _ = nI 1 from rfl) (by decide) ?_
              refine jr_aload rfl rfl ?_
              refine jr_getR rfl rfl rfl rfl (Or.inl rfl) ?_
              refine jr_ic rfl ?_
              refine jr_iald (len := 337) rfl rfl (show _ = nI 0 from rfl) (by decide) ?_
              refine jr_cv2 (mc' := 0) (ms' := 0) rfl jm_MD_driftUpper_n jm_MD_driftUpper_f rfl rfl rfl rfl rfl rfl rfl (Nat.zero_le _) (Nat.zero_le _) ?_
              first
                | (exfalso; omega)
                | (exfalso; simp (disch := omega) only [Int32.lt_iff_toInt_lt, Int32.le_iff_toInt_le, ← Int32.toInt_inj, Int32.reduceToInt, nI_toInt] at c16 m2MDisIn m5MDisIn m5MDhasMonths; done)
                | (exfalso; simp (disch := omega) only [Int32.lt_iff_toInt_lt, Int32.le_iff_toInt_le, ← Int32.toInt_inj, Int32.reduceToInt, nI_toInt] at c16 m2MDisIn m5MDisIn m5MDhasMonths; omega)
      · skip
        refine jr_ic rfl ?_
        refine jr_iret rfl rfl (Nat.zero_le _) (Nat.zero_le _) ?_
        show jx_W (jm_MD_drift, d + 40, 0, 0, false, 1, _) _ 0 0 0 [some _, some _, none, none, none] [] _
        refine jr_iload rfl rfl ?_
        refine jr_ic rfl ?_
        refine jr_ic rfl ?_
        refine jr_cs3 (mc' := 0) (ms' := 0) rfl jm_MD_isIn_n jm_MD_isIn_f rfl rfl rfl rfl rfl (Nat.zero_le _) (Nat.zero_le _) ?_
        show jx_W (jm_MD_isIn, _, _, _, _, _, _) _ 0 0 0 [some _, some _, some _] [] _
        refine jr_iload rfl rfl ?_
        refine jr_iload rfl rfl ?_
        refine jr_icmp_lt rfl (fun m2MDisIn => ?_) (fun m2MDisIn => ?_)
        · refine jr_ic rfl ?_
          refine jr_zret rfl rfl rfl (Nat.zero_le _) (Nat.zero_le _) ?_
          refine jr_if_ne rfl (fun z => absurd (by decide) z) (fun _ => ?_)
          refine jr_ic rfl ?_
          refine jr_iret rfl rfl (Nat.zero_le _) (Nat.zero_le _) ?_
          first
            | exact ⟨rfl, hRel0⟩
            | (exfalso; omega)
            | (exfalso; simp (disch := omega) only [Int32.lt_iff_toInt_lt, Int32.le_iff_toInt_le, ← Int32.toInt_inj, Int32.reduceToInt, nI_toInt] at m2MDisIn; done)
            | (exfalso; simp (disch := omega) only [Int32.lt_iff_toInt_lt, Int32.le_iff_toInt_le, ← Int32.toInt_inj, Int32.reduceToInt, nI_toInt] at m2MDisIn; omega)
        · refine jr_iload rfl rfl ?_
          refine jr_iload rfl rfl ?_
          refine jr_icmp_gt rfl (fun m5MDisIn => ?_) (fun m5MDisIn => ?_)
          · refine jr_ic rfl ?_
            refine jr_zret rfl rfl rfl (Nat.zero_le _) (Nat.zero_le _) ?_
            refine jr_if_ne rfl (fun z => absurd (by decide) z) (fun _ => ?_)
            refine jr_ic rfl ?_
            refine jr_iret rfl rfl (Nat.zero_le _) (Nat.zero_le _) ?_
            first
              | exact ⟨rfl, hRel0⟩
              | (exfalso; omega)
              | (exfalso; simp (disch := omega) only [Int32.lt_iff_toInt_lt, Int32.le_iff_toInt_le, ← Int32.toInt_inj, Int32.reduceToInt, nI_toInt] at m2MDisIn m5MDisIn; done)
              | (exfalso; simp (disch := omega) only [Int32.lt_iff_toInt_lt, Int32.le_iff_toInt_le, ← Int32.toInt_inj, Int32.reduceToInt, nI_toInt] at m2MDisIn m5MDisIn; omega)
          · refine jr_ic rfl ?_
            refine jr_goto rfl ?_
            refine jr_zret rfl rfl rfl (Nat.zero_le _) (Nat.zero_le _) ?_
            refine jr_if_ne rfl (fun _ => ?_) (fun z => absurd z (by decide))
            refine jr_aload rfl rfl ?_
            refine jr_cv0 (mc' := 0) (ms' := 0) rfl jm_MD_hasMonths_n jm_MD_hasMonths_f rfl rfl rfl rfl rfl rfl rfl (Nat.zero_le _) (Nat.zero_le _) ?_
            show jx_W (jm_MD_hasMonths, _, _, _, _, _, _) _ 0 0 0 [some _] [] _
            refine jr_aload rfl rfl ?_
            refine jr_getR rfl rfl rfl rfl (Or.inl rfl) ?_
            refine jr_aload rfl rfl ?_
            refine jr_getI rfl rfl ?_
            refine jr_iald (len := 2) rfl rfl hw.1 (by omega) ?_
            refine jr_if_le rfl (fun m5MDhasMonths => ?_) (fun m5MDhasMonths => ?_)
            · refine jr_ic rfl ?_
              refine jr_zret rfl rfl rfl (Nat.zero_le _) (Nat.zero_le _) ?_
              refine jr_if_ne rfl (fun z => absurd (by decide) z) (fun _ => ?_)
              refine jr_iload rfl rfl ?_
              refine jr_iret rfl rfl (Nat.zero_le _) (Nat.zero_le _) ?_
              first
                | exact ⟨rfl, hRel0⟩
                | (exfalso; omega)
                | (exfalso; simp (disch := omega) only [Int32.lt_iff_toInt_lt, Int32.le_iff_toInt_le, ← Int32.toInt_inj, Int32.reduceToInt, nI_toInt] at m2MDisIn m5MDisIn m5MDhasMonths; done)
                | (exfalso; simp (disch := omega) only [Int32.lt_iff_toInt_lt, Int32.le_iff_toInt_le, ← Int32.toInt_inj, Int32.reduceToInt, nI_toInt] at m2MDisIn m5MDisIn m5MDhasMonths; omega)
            · refine jr_ic rfl ?_
              refine jr_goto rfl ?_
              refine jr_zret rfl rfl rfl (Nat.zero_le _) (Nat.zero_le _) ?_
              refine jr_if_ne rfl (fun _ => ?_) (fun z => absurd z (by decide))
              refine jr_aload rfl rfl ?_
              refine jr_aload rfl rfl ?_
              refine jr_getR rfl rfl rfl rfl (Or.inl rfl) ?_
              refine jr_ic rfl ?_
              refine jr_iald (len := 337) rfl rfl (show _ = nI 1 from rfl) (by decide) ?_
              refine jr_aload rfl rfl ?_
              refine jr_getR rfl rfl rfl rfl (Or.inl rfl) ?_
              refine jr_ic rfl ?_
              refine jr_iald (len := 337) rfl rfl (show _ = nI 0 from rfl) (by decide) ?_
              refine jr_cv2 (mc' := 0) (ms' := 0) rfl jm_MD_driftUpper_n jm_MD_driftUpper_f rfl rfl rfl rfl rfl rfl rfl (Nat.zero_le _) (Nat.zero_le _) ?_
              first
                | (exfalso; omega)
                | (exfalso; simp (disch := omega) only [Int32.lt_iff_toInt_lt, Int32.le_iff_toInt_le, ← Int32.toInt_inj, Int32.reduceToInt, nI_toInt] at m2MDisIn m5MDisIn m5MDhasMonths; done)
                | (exfalso; simp (disch := omega) only [Int32.lt_iff_toInt_lt, Int32.le_iff_toInt_le, ← Int32.toInt_inj, Int32.reduceToInt, nI_toInt] at m2MDisIn m5MDisIn m5MDhasMonths; omega)
  · have hn1 : 0 < jz_nm hm b := by
      rcases Nat.eq_zero_or_pos (jz_nm hm b) with e | e
      · rw [e] at hnm; exact absurd hnm.1 hmo
      · exact e
    obtain ⟨L, hL1, hL2, hL3⟩ := jz_dl hw hmo
    obtain ⟨u, hu1, hu2⟩ := jz_su hw
    obtain ⟨e1, b1, b2⟩ := jw_dU_I (t := t) (w := w') hL1 hu1 hL3 hu2 (by omega) (by omega)
    rw [← show jA hm 1 = nI t from t2, ← show jA hm 0 = nI w' from t1] at e1
    obtain ⟨U, hU⟩ : ∃ U, U = jw_dU (jC hm b) (jA hm 1) (jA hm 0) := ⟨_, rfl⟩
    rw [← hU] at e1
    obtain ⟨X, hX, hX2⟩ : ∃ X : Nat, (if 0 ≤ U then U else -U) = nI X ∧ X < 2 ^ 30 := by
      by_cases q : 0 ≤ U
      · rw [if_pos q]
        rw [Int32.le_iff_toInt_le] at q
        have z0 : (0 : Int32).toInt = 0 := rfl
        exact ⟨U.toInt.toNat, jn_int (by omega) (by omega), by omega⟩
      · rw [if_neg q]
        rw [Int32.le_iff_toInt_le] at q
        have z0 : (0 : Int32).toInt = 0 := rfl
        have e2 : (-U).toInt = -U.toInt := by rw [Int32.toInt_neg]; exact jn_sm (by omega) (by omega)
        exact ⟨(-U).toInt.toNat, jn_int (by omega) (by omega), by omega⟩
    have hne : ¬ jw_gcd (nI X) (nI L) = 0 := jw_gcd_ne (by omega) (by omega) hL2
    show jx_W (jm_JV_drift, d + 40, 0, 0, false, 0, _) _ 0 0 0 [some (jv_r 10 0), some (jv_i x), none, none, none] [] _
    refine jr_aload rfl rfl ?_
    refine jr_getR rfl rfl rfl rfl (Or.inl rfl) ?_
    refine jr_ic rfl ?_
    refine jr_ic rfl ?_
    refine jr_cv2 (mc' := 0) (ms' := 0) rfl jm_Cal_driftUpper_n jm_Cal_driftUpper_f rfl rfl rfl rfl rfl rfl rfl (Nat.zero_le _) (Nat.zero_le _) ?_
    refine ev2_driftUpper hw hA hR hmo ?_
    rw [Int32.add_zero, Int32.add_zero, ← hU]
    refine jr_ist2 rfl rfl ?_
    refine jr_aload rfl rfl ?_
    refine jr_getR rfl rfl rfl rfl (Or.inl rfl) ?_
    refine jr_cv0 (mc' := 0) (ms' := 0) rfl jm_Cal_driftLower_n jm_Cal_driftLower_f rfl rfl rfl rfl rfl rfl rfl (Nat.zero_le _) (Nat.zero_le _) ?_
    refine ev2_driftLower hw hA hR hmo ?_
    rw [hL1]
    refine jr_ist3 rfl rfl ?_
    refine jr_iload rfl rfl ?_
    refine jr_cs1 (mc' := 0) (ms' := 0) rfl jm_Math_abs_n jm_Math_abs_f rfl rfl rfl rfl rfl (Nat.zero_le _) (Nat.zero_le _) ?_
    refine ev_Math_abs ?_
    rw [hX]
    refine jr_iload rfl rfl ?_
    refine jr_cs2 (mc' := 0) (ms' := 0) rfl jm_JV_commonDivisor_n jm_JV_commonDivisor_f rfl rfl rfl rfl rfl (Nat.zero_le _) (Nat.zero_le _) ?_
    refine ev_common hX2 (by omega) hL2 ?_
    refine jr_ist4 rfl rfl ?_
    refine jr_iload rfl rfl ?_
    refine jr_lsw rfl ?_
    refine ⟨fun c16 => ?_, fun n16_0 => ?_⟩
    · refine jr_iload rfl rfl ?_
      refine jr_iload rfl rfl ?_
      refine jr_idiv rfl hne ?_
      refine jr_iret rfl rfl (Nat.zero_le _) (Nat.zero_le _) ?_
      show jx_W (jm_MD_drift, d + 40, 0, 0, false, 1, _) _ 0 0 0 [some _, some _, none, none, none] [] _
      refine jr_iload rfl rfl ?_
      refine jr_ic rfl ?_
      refine jr_ic rfl ?_
      refine jr_cs3 (mc' := 0) (ms' := 0) rfl jm_MD_isIn_n jm_MD_isIn_f rfl rfl rfl rfl rfl (Nat.zero_le _) (Nat.zero_le _) ?_
      show jx_W (jm_MD_isIn, _, _, _, _, _, _) _ 0 0 0 [some _, some _, some _] [] _
      refine jr_iload rfl rfl ?_
      refine jr_iload rfl rfl ?_
      refine jr_icmp_lt rfl (fun m2MDisIn => ?_) (fun m2MDisIn => ?_)
      · refine jr_ic rfl ?_
        refine jr_zret rfl rfl rfl (Nat.zero_le _) (Nat.zero_le _) ?_
        refine jr_if_ne rfl (fun z => absurd (by decide) z) (fun _ => ?_)
        refine jr_ic rfl ?_
        refine jr_iret rfl rfl (Nat.zero_le _) (Nat.zero_le _) ?_
        first
          | exact ⟨rfl, hRel0⟩
          | (exfalso; omega)
          | (exfalso; simp (disch := omega) only [Int32.lt_iff_toInt_lt, Int32.le_iff_toInt_le, ← Int32.toInt_inj, Int32.reduceToInt, nI_toInt] at c16 m2MDisIn; done)
          | (exfalso; simp (disch := omega) only [Int32.lt_iff_toInt_lt, Int32.le_iff_toInt_le, ← Int32.toInt_inj, Int32.reduceToInt, nI_toInt] at c16 m2MDisIn; omega)
      · refine jr_iload rfl rfl ?_
        refine jr_iload rfl rfl ?_
        refine jr_icmp_gt rfl (fun m5MDisIn => ?_) (fun m5MDisIn => ?_)
        · refine jr_ic rfl ?_
          refine jr_zret rfl rfl rfl (Nat.zero_le _) (Nat.zero_le _) ?_
          refine jr_if_ne rfl (fun z => absurd (by decide) z) (fun _ => ?_)
          refine jr_ic rfl ?_
          refine jr_iret rfl rfl (Nat.zero_le _) (Nat.zero_le _) ?_
          first
            | exact ⟨rfl, hRel0⟩
            | (exfalso; omega)
            | (exfalso; simp (disch := omega) only [Int32.lt_iff_toInt_lt, Int32.le_iff_toInt_le, ← Int32.toInt_inj, Int32.reduceToInt, nI_toInt] at c16 m2MDisIn m5MDisIn; done)
            | (exfalso; simp (disch := omega) only [Int32.lt_iff_toInt_lt, Int32.le_iff_toInt_le, ← Int32.toInt_inj, Int32.reduceToInt, nI_toInt] at c16 m2MDisIn m5MDisIn; omega)
        · refine jr_ic rfl ?_
          refine jr_goto rfl ?_
          refine jr_zret rfl rfl rfl (Nat.zero_le _) (Nat.zero_le _) ?_
          refine jr_if_ne rfl (fun _ => ?_) (fun z => absurd z (by decide))
          refine jr_aload rfl rfl ?_
          refine jr_cv0 (mc' := 0) (ms' := 0) rfl jm_MD_hasMonths_n jm_MD_hasMonths_f rfl rfl rfl rfl rfl rfl rfl (Nat.zero_le _) (Nat.zero_le _) ?_
          show jx_W (jm_MD_hasMonths, _, _, _, _, _, _) _ 0 0 0 [some _] [] _
          refine jr_aload rfl rfl ?_
          refine jr_getR rfl rfl rfl rfl (Or.inl rfl) ?_
          refine jr_aload rfl rfl ?_
          refine jr_getI rfl rfl ?_
          refine jr_iald (len := 2) rfl rfl hw.1 (by omega) ?_
          refine jr_if_le rfl (fun m5MDhasMonths => ?_) (fun m5MDhasMonths => ?_)
          · refine jr_ic rfl ?_
            refine jr_zret rfl rfl rfl (Nat.zero_le _) (Nat.zero_le _) ?_
            refine jr_if_ne rfl (fun z => absurd (by decide) z) (fun _ => ?_)
            refine jr_iload rfl rfl ?_
            refine jr_iret rfl rfl (Nat.zero_le _) (Nat.zero_le _) ?_
            first
              | exact ⟨rfl, hRel0⟩
              | (exfalso; omega)
              | (exfalso; simp (disch := omega) only [Int32.lt_iff_toInt_lt, Int32.le_iff_toInt_le, ← Int32.toInt_inj, Int32.reduceToInt, nI_toInt] at c16 m2MDisIn m5MDisIn m5MDhasMonths; done)
              | (exfalso; simp (disch := omega) only [Int32.lt_iff_toInt_lt, Int32.le_iff_toInt_le, ← Int32.toInt_inj, Int32.reduceToInt, nI_toInt] at c16 m2MDisIn m5MDisIn m5MDhasMonths; omega)
          · refine jr_ic rfl ?_
            refine jr_goto rfl ?_
            refine jr_zret rfl rfl rfl (Nat.zero_le _) (Nat.zero_le _) ?_
            refine jr_if_ne rfl (fun _ => ?_) (fun z => absurd z (by decide))
            refine jr_aload rfl rfl ?_
            refine jr_aload rfl rfl ?_
            refine jr_getR rfl rfl rfl rfl (Or.inl rfl) ?_
            refine jr_ic rfl ?_
            refine jr_iald (len := 337) rfl rfl (show _ = nI 1 from rfl) (by decide) ?_
            refine jr_aload rfl rfl ?_
            refine jr_getR rfl rfl rfl rfl (Or.inl rfl) ?_
            refine jr_ic rfl ?_
            refine jr_iald (len := 337) rfl rfl (show _ = nI 0 from rfl) (by decide) ?_
            refine jr_cv2 (mc' := 0) (ms' := 0) rfl jm_MD_driftUpper_n jm_MD_driftUpper_f rfl rfl rfl rfl rfl rfl rfl (Nat.zero_le _) (Nat.zero_le _) ?_
            first
              | (exfalso; omega)
              | (exfalso; simp (disch := omega) only [Int32.lt_iff_toInt_lt, Int32.le_iff_toInt_le, ← Int32.toInt_inj, Int32.reduceToInt, nI_toInt] at c16 m2MDisIn m5MDisIn m5MDhasMonths; done)
              | (exfalso; simp (disch := omega) only [Int32.lt_iff_toInt_lt, Int32.le_iff_toInt_le, ← Int32.toInt_inj, Int32.reduceToInt, nI_toInt] at c16 m2MDisIn m5MDisIn m5MDhasMonths; omega)
    · skip
      refine ⟨fun c16 => ?_, fun n16_1 => ?_⟩
      · refine jr_iload rfl rfl ?_
        refine jr_iload rfl rfl ?_
        refine jr_idiv rfl hne ?_
        refine jr_iret rfl rfl (Nat.zero_le _) (Nat.zero_le _) ?_
        show jx_W (jm_MD_drift, d + 40, 0, 0, false, 1, _) _ 0 0 0 [some _, some _, none, none, none] [] _
        refine jr_iload rfl rfl ?_
        refine jr_ic rfl ?_
        refine jr_ic rfl ?_
        refine jr_cs3 (mc' := 0) (ms' := 0) rfl jm_MD_isIn_n jm_MD_isIn_f rfl rfl rfl rfl rfl (Nat.zero_le _) (Nat.zero_le _) ?_
        show jx_W (jm_MD_isIn, _, _, _, _, _, _) _ 0 0 0 [some _, some _, some _] [] _
        refine jr_iload rfl rfl ?_
        refine jr_iload rfl rfl ?_
        refine jr_icmp_lt rfl (fun m2MDisIn => ?_) (fun m2MDisIn => ?_)
        · refine jr_ic rfl ?_
          refine jr_zret rfl rfl rfl (Nat.zero_le _) (Nat.zero_le _) ?_
          refine jr_if_ne rfl (fun z => absurd (by decide) z) (fun _ => ?_)
          refine jr_ic rfl ?_
          refine jr_iret rfl rfl (Nat.zero_le _) (Nat.zero_le _) ?_
          first
            | exact ⟨rfl, hRel0⟩
            | (exfalso; omega)
            | (exfalso; simp (disch := omega) only [Int32.lt_iff_toInt_lt, Int32.le_iff_toInt_le, ← Int32.toInt_inj, Int32.reduceToInt, nI_toInt] at c16 m2MDisIn; done)
            | (exfalso; simp (disch := omega) only [Int32.lt_iff_toInt_lt, Int32.le_iff_toInt_le, ← Int32.toInt_inj, Int32.reduceToInt, nI_toInt] at c16 m2MDisIn; omega)
        · refine jr_iload rfl rfl ?_
          refine jr_iload rfl rfl ?_
          refine jr_icmp_gt rfl (fun m5MDisIn => ?_) (fun m5MDisIn => ?_)
          · refine jr_ic rfl ?_
            refine jr_zret rfl rfl rfl (Nat.zero_le _) (Nat.zero_le _) ?_
            refine jr_if_ne rfl (fun z => absurd (by decide) z) (fun _ => ?_)
            refine jr_ic rfl ?_
            refine jr_iret rfl rfl (Nat.zero_le _) (Nat.zero_le _) ?_
            first
              | exact ⟨rfl, hRel0⟩
              | (exfalso; omega)
              | (exfalso; simp (disch := omega) only [Int32.lt_iff_toInt_lt, Int32.le_iff_toInt_le, ← Int32.toInt_inj, Int32.reduceToInt, nI_toInt] at c16 m2MDisIn m5MDisIn; done)
              | (exfalso; simp (disch := omega) only [Int32.lt_iff_toInt_lt, Int32.le_iff_toInt_le, ← Int32.toInt_inj, Int32.reduceToInt, nI_toInt] at c16 m2MDisIn m5MDisIn; omega)
          · refine jr_ic rfl ?_
            refine jr_goto rfl ?_
            refine jr_zret rfl rfl rfl (Nat.zero_le _) (Nat.zero_le _) ?_
            refine jr_if_ne rfl (fun _ => ?_) (fun z => absurd z (by decide))
            refine jr_aload rfl rfl ?_
            refine jr_cv0 (mc' := 0) (ms' := 0) rfl jm_MD_hasMonths_n jm_MD_hasMonths_f rfl rfl rfl rfl rfl rfl rfl (Nat.zero_le _) (Nat.zero_le _) ?_
            show jx_W (jm_MD_hasMonths, _, _, _, _, _, _) _ 0 0 0 [some _] [] _
            refine jr_aload rfl rfl ?_
            refine jr_getR rfl rfl rfl rfl (Or.inl rfl) ?_
            refine jr_aload rfl rfl ?_
            refine jr_getI rfl rfl ?_
            refine jr_iald (len := 2) rfl rfl hw.1 (by omega) ?_
            refine jr_if_le rfl (fun m5MDhasMonths => ?_) (fun m5MDhasMonths => ?_)
            · refine jr_ic rfl ?_
              refine jr_zret rfl rfl rfl (Nat.zero_le _) (Nat.zero_le _) ?_
              refine jr_if_ne rfl (fun z => absurd (by decide) z) (fun _ => ?_)
              refine jr_iload rfl rfl ?_
              refine jr_iret rfl rfl (Nat.zero_le _) (Nat.zero_le _) ?_
              first
                | exact ⟨rfl, hRel0⟩
                | (exfalso; omega)
                | (exfalso; simp (disch := omega) only [Int32.lt_iff_toInt_lt, Int32.le_iff_toInt_le, ← Int32.toInt_inj, Int32.reduceToInt, nI_toInt] at c16 m2MDisIn m5MDisIn m5MDhasMonths; done)
                | (exfalso; simp (disch := omega) only [Int32.lt_iff_toInt_lt, Int32.le_iff_toInt_le, ← Int32.toInt_inj, Int32.reduceToInt, nI_toInt] at c16 m2MDisIn m5MDisIn m5MDhasMonths; omega)
            · refine jr_ic rfl ?_
              refine jr_goto rfl ?_
              refine jr_zret rfl rfl rfl (Nat.zero_le _) (Nat.zero_le _) ?_
              refine jr_if_ne rfl (fun _ => ?_) (fun z => absurd z (by decide))
              refine jr_aload rfl rfl ?_
              refine jr_aload rfl rfl ?_
              refine jr_getR rfl rfl rfl rfl (Or.inl rfl) ?_
              refine jr_ic rfl ?_
              refine jr_iald (len := 337) rfl rfl (show _ = nI 1 from rfl) (by decide) ?_
              refine jr_aload rfl rfl ?_
              refine jr_getR rfl rfl rfl rfl (Or.inl rfl) ?_
              refine jr_ic rfl ?_
              refine jr_iald (len := 337) rfl rfl (show _ = nI 0 from rfl) (by decide) ?_
              refine jr_cv2 (mc' := 0) (ms' := 0) rfl jm_MD_driftUpper_n jm_MD_driftUpper_f rfl rfl rfl rfl rfl rfl rfl (Nat.zero_le _) (Nat.zero_le _) ?_
              first
                | (exfalso; omega)
                | (exfalso; simp (disch := omega) only [Int32.lt_iff_toInt_lt, Int32.le_iff_toInt_le, ← Int32.toInt_inj, Int32.reduceToInt, nI_toInt] at c16 m2MDisIn m5MDisIn m5MDhasMonths; done)
                | (exfalso; simp (disch := omega) only [Int32.lt_iff_toInt_lt, Int32.le_iff_toInt_le, ← Int32.toInt_inj, Int32.reduceToInt, nI_toInt] at c16 m2MDisIn m5MDisIn m5MDhasMonths; omega)
      · skip
        refine jr_ic rfl ?_
        refine jr_iret rfl rfl (Nat.zero_le _) (Nat.zero_le _) ?_
        show jx_W (jm_MD_drift, d + 40, 0, 0, false, 1, _) _ 0 0 0 [some _, some _, none, none, none] [] _
        refine jr_iload rfl rfl ?_
        refine jr_ic rfl ?_
        refine jr_ic rfl ?_
        refine jr_cs3 (mc' := 0) (ms' := 0) rfl jm_MD_isIn_n jm_MD_isIn_f rfl rfl rfl rfl rfl (Nat.zero_le _) (Nat.zero_le _) ?_
        show jx_W (jm_MD_isIn, _, _, _, _, _, _) _ 0 0 0 [some _, some _, some _] [] _
        refine jr_iload rfl rfl ?_
        refine jr_iload rfl rfl ?_
        refine jr_icmp_lt rfl (fun m2MDisIn => ?_) (fun m2MDisIn => ?_)
        · refine jr_ic rfl ?_
          refine jr_zret rfl rfl rfl (Nat.zero_le _) (Nat.zero_le _) ?_
          refine jr_if_ne rfl (fun z => absurd (by decide) z) (fun _ => ?_)
          refine jr_ic rfl ?_
          refine jr_iret rfl rfl (Nat.zero_le _) (Nat.zero_le _) ?_
          first
            | exact ⟨rfl, hRel0⟩
            | (exfalso; omega)
            | (exfalso; simp (disch := omega) only [Int32.lt_iff_toInt_lt, Int32.le_iff_toInt_le, ← Int32.toInt_inj, Int32.reduceToInt, nI_toInt] at m2MDisIn; done)
            | (exfalso; simp (disch := omega) only [Int32.lt_iff_toInt_lt, Int32.le_iff_toInt_le, ← Int32.toInt_inj, Int32.reduceToInt, nI_toInt] at m2MDisIn; omega)
        · refine jr_iload rfl rfl ?_
          refine jr_iload rfl rfl ?_
          refine jr_icmp_gt rfl (fun m5MDisIn => ?_) (fun m5MDisIn => ?_)
          · refine jr_ic rfl ?_
            refine jr_zret rfl rfl rfl (Nat.zero_le _) (Nat.zero_le _) ?_
            refine jr_if_ne rfl (fun z => absurd (by decide) z) (fun _ => ?_)
            refine jr_ic rfl ?_
            refine jr_iret rfl rfl (Nat.zero_le _) (Nat.zero_le _) ?_
            first
              | exact ⟨rfl, hRel0⟩
              | (exfalso; omega)
              | (exfalso; simp (disch := omega) only [Int32.lt_iff_toInt_lt, Int32.le_iff_toInt_le, ← Int32.toInt_inj, Int32.reduceToInt, nI_toInt] at m2MDisIn m5MDisIn; done)
              | (exfalso; simp (disch := omega) only [Int32.lt_iff_toInt_lt, Int32.le_iff_toInt_le, ← Int32.toInt_inj, Int32.reduceToInt, nI_toInt] at m2MDisIn m5MDisIn; omega)
          · refine jr_ic rfl ?_
            refine jr_goto rfl ?_
            refine jr_zret rfl rfl rfl (Nat.zero_le _) (Nat.zero_le _) ?_
            refine jr_if_ne rfl (fun _ => ?_) (fun z => absurd z (by decide))
            refine jr_aload rfl rfl ?_
            refine jr_cv0 (mc' := 0) (ms' := 0) rfl jm_MD_hasMonths_n jm_MD_hasMonths_f rfl rfl rfl rfl rfl rfl rfl (Nat.zero_le _) (Nat.zero_le _) ?_
            show jx_W (jm_MD_hasMonths, _, _, _, _, _, _) _ 0 0 0 [some _] [] _
            refine jr_aload rfl rfl ?_
            refine jr_getR rfl rfl rfl rfl (Or.inl rfl) ?_
            refine jr_aload rfl rfl ?_
            refine jr_getI rfl rfl ?_
            refine jr_iald (len := 2) rfl rfl hw.1 (by omega) ?_
            refine jr_if_le rfl (fun m5MDhasMonths => ?_) (fun m5MDhasMonths => ?_)
            · refine jr_ic rfl ?_
              refine jr_zret rfl rfl rfl (Nat.zero_le _) (Nat.zero_le _) ?_
              refine jr_if_ne rfl (fun z => absurd (by decide) z) (fun _ => ?_)
              refine jr_iload rfl rfl ?_
              refine jr_iret rfl rfl (Nat.zero_le _) (Nat.zero_le _) ?_
              first
                | exact ⟨rfl, hRel0⟩
                | (exfalso; omega)
                | (exfalso; simp (disch := omega) only [Int32.lt_iff_toInt_lt, Int32.le_iff_toInt_le, ← Int32.toInt_inj, Int32.reduceToInt, nI_toInt] at m2MDisIn m5MDisIn m5MDhasMonths; done)
                | (exfalso; simp (disch := omega) only [Int32.lt_iff_toInt_lt, Int32.le_iff_toInt_le, ← Int32.toInt_inj, Int32.reduceToInt, nI_toInt] at m2MDisIn m5MDisIn m5MDhasMonths; omega)
            · refine jr_ic rfl ?_
              refine jr_goto rfl ?_
              refine jr_zret rfl rfl rfl (Nat.zero_le _) (Nat.zero_le _) ?_
              refine jr_if_ne rfl (fun _ => ?_) (fun z => absurd z (by decide))
              refine jr_aload rfl rfl ?_
              refine jr_aload rfl rfl ?_
              refine jr_getR rfl rfl rfl rfl (Or.inl rfl) ?_
              refine jr_ic rfl ?_
              refine jr_iald (len := 337) rfl rfl (show _ = nI 1 from rfl) (by decide) ?_
              refine jr_aload rfl rfl ?_
              refine jr_getR rfl rfl rfl rfl (Or.inl rfl) ?_
              refine jr_ic rfl ?_
              refine jr_iald (len := 337) rfl rfl (show _ = nI 0 from rfl) (by decide) ?_
              refine jr_cv2 (mc' := 0) (ms' := 0) rfl jm_MD_driftUpper_n jm_MD_driftUpper_f rfl rfl rfl rfl rfl rfl rfl (Nat.zero_le _) (Nat.zero_le _) ?_
              first
                | (exfalso; omega)
                | (exfalso; simp (disch := omega) only [Int32.lt_iff_toInt_lt, Int32.le_iff_toInt_le, ← Int32.toInt_inj, Int32.reduceToInt, nI_toInt] at m2MDisIn m5MDisIn m5MDhasMonths; done)
                | (exfalso; simp (disch := omega) only [Int32.lt_iff_toInt_lt, Int32.le_iff_toInt_le, ← Int32.toInt_inj, Int32.reduceToInt, nI_toInt] at m2MDisIn m5MDisIn m5MDhasMonths; omega)

theorem pd_drift {d : Nat} {hc hm : jx_H} {x : Int32} (hRel : jz_Rel hc hm) : jx_Ev jm_JV_drift (d + 40) 0 0 false 0 [jv_r 10 0, jv_i x] hc (fun r hc' => jx_Ev jm_MD_drift (d + 40) 0 0 false 1 [jv_r 11 0, jv_i x] hm (fun r' hm' => r = r' ∧ jz_Rel hc' hm')) := by
  by_cases h0 : x = 0
  · subst h0; exact pd_drift_0 hRel
  by_cases h1 : x = 1
  · subst h1; exact pd_drift_1 hRel
  exact pd_drift_o hRel h0 h1
