def jw_nx1 (nm m : Nat) : Nat := if m + 1 < nm then m + 1 else 0
theorem jw_nx1_lt {nm m : Nat} (h : m < nm) : jw_nx1 nm m < nm := by unfold jw_nx1; split <;> omega
theorem jw_nx1_mod {nm m : Nat} (h : m < nm) : (m + 1) % nm = jw_nx1 nm m := by
  unfold jw_nx1
  split
  · exact Nat.mod_eq_of_lt (by omega)
  · rw [show m + 1 = nm by omega, Nat.mod_self]
def jw_ds (nm M m : Nat) : Nat := if m ≤ M then M - m else nm - m + M
theorem jw_ds_nx {nm M m : Nat} (h : m < nm) (hM : M < nm) (hn : m ≠ M) : jw_ds nm M m = jw_ds nm M (jw_nx1 nm m) + 1 := by
  unfold jw_ds jw_nx1
  split <;> split <;> split <;> omega
theorem jw_ds_lt {nm M m : Nat} (h : m < nm) (hM : M < nm) : jw_ds nm M m < nm := by unfold jw_ds; split <;> omega
def jw_dt (F : Nat → Int32) (nm M : Nat) : Nat → Nat → Int32 → Int32
  | 0, _, a => a
  | n + 1, m, a => if m = M then a else jw_dt F nm M n (jw_nx1 nm m) (a + F m)
theorem jw_dt_e {F : Nat → Int32} {nm M : Nat} : ∀ n a, jw_dt F nm M n M a = a
  | 0, _ => rfl
  | n + 1, a => if_pos rfl
def jw_pn (lt : Bool) (u l : Nat) : Nat := if l < u then (if lt = true then l else 0) else u
theorem jw_pn_le {lt : Bool} {u l : Nat} : jw_pn lt u l ≤ l ∨ jw_pn lt u l = u := by unfold jw_pn; split <;> (try split) <;> omega
theorem jw_pn_mono {lt : Bool} {u l l' : Nat} (h : l ≤ l') (h0 : ¬ jw_pn lt u l = 0) : ¬ jw_pn lt u l' = 0 := by
  unfold jw_pn at h0 ⊢
  by_cases e : lt = true
  · simp only [if_pos e] at h0 ⊢
    split at h0 <;> split <;> omega
  · simp only [if_neg e] at h0 ⊢
    split at h0 <;> split <;> omega
theorem jw_pn_b {lt : Bool} {u l : Nat} (hu : u ≤ 31) (hl : l ≤ 40) : jw_pn lt u l ≤ 40 := by unfold jw_pn; split <;> (try split) <;> omega
set_option maxHeartbeats 800000 in
set_option maxRecDepth 100000 in
theorem lp_till0 {d n0 : Nat} {Q : Option jx_V → jx_H → Prop} {h hm : jx_H} {b r M : Nat} (j m : Nat) (acc : Int32) (hw : jz_W hm b) (hA : jy_A h 0 r (jA hm)) (hR : jy_R h r hm b) (hM : M < jz_nm hm b) (hml : m < jz_nm hm b) (hj : j ≤ 6) (hQ : Q (some (jv_i (jw_dt (jC hm b 3) (jz_nm hm b) M (6 - j) m acc))) h)  : jx_W (jm_Cal_daysTill, d + 3, 0, 0, false, 0, n0) Q 0 0 7 [some (jv_r 1 0), some (jv_i (nI M)), some (jv_i 0), some (jv_i acc), some (jv_i (nI m)), some (jv_i (nI j))] [] h := by
  have hnm6 := hw.2.2.1.1.2
  refine jr_iload rfl rfl ?_
  refine jr_ic rfl ?_
  refine jr_icmp_ge rfl (fun c9 => ?_) (fun c9 => ?_)
  · refine jr_iload rfl rfl ?_
    refine jr_iret rfl rfl (Nat.zero_le _) (Nat.zero_le _) ?_
    have hj2 : 6 - j = 0 := by have := jn_le (show nI 6 ≤ nI j from c9) (by omega) (by omega); omega
    rw [hj2] at hQ
    exact hQ
  · have hj1 : j < 6 := jn_nle (show ¬ nI 6 ≤ nI j from c9) (by omega) (by omega)
    have hn : 6 - j = (6 - (j + 1)) + 1 := by omega
    refine jr_iload rfl rfl ?_
    refine jr_iload rfl rfl ?_
    refine jr_icmp_eq rfl (fun c12 => ?_) (fun c12 => ?_)
    · refine jr_iload rfl rfl ?_
      refine jr_iret rfl rfl (Nat.zero_le _) (Nat.zero_le _) ?_
      have e := jn_eq (show nI m = nI M from c12) (by omega) (by omega)
      rw [e, jw_dt_e] at hQ
      exact hQ
    · refine jr_iload rfl rfl ?_
      refine jr_iload rfl rfl ?_
      refine jr_if_eq rfl (fun _ => ?_) (fun z => absurd (by decide) z)
      refine jr_aload rfl rfl ?_
      refine jr_getM rfl rfl rfl rfl hA.1 ?_
      refine jr_iload rfl rfl ?_
      refine jr_cv1 (mc' := 0) (ms' := 0) rfl jm_Rep_leastOf_n jm_Rep_leastOf_f rfl rfl rfl rfl rfl rfl rfl (Nat.zero_le _) (Nat.zero_le _) ?_
      refine ev_Rep_leastOf (hm := hm) (b := b) hR hw.2.2.1.1 hml ?_
      refine jr_iadd rfl ?_
      refine jr_ist3 rfl rfl ?_
      refine jr_iload rfl rfl ?_
      refine jr_ic rfl ?_
      refine jr_iadd rfl ?_
      rw [jn_S]
      refine jr_aload rfl rfl ?_
      refine jr_getM rfl rfl rfl rfl hA.1 ?_
      refine jr_getI rfl rfl ?_
      rw [show jh_I h 7 r 0 = nI (jz_nm hm b) from hR.1.trans hw.2.2.1.1.1]
      refine jr_icmp_ge rfl (fun c33 => ?_) (fun c33 => ?_)
      · refine jr_ic rfl ?_
        refine jr_ist4 rfl rfl ?_
        refine jr_iinc5 rfl rfl ?_
        refine jr_goto rfl ?_
        rw [jn_S]
        rw [hn, jw_dt, if_neg (fun z => c12 (congrArg nI z))] at hQ
        have e : jw_nx1 (jz_nm hm b) m = 0 := if_neg (by have := jn_le (show nI (jz_nm hm b) ≤ nI (m + 1) from c33) (by omega) (by omega); omega)
        rw [e] at hQ
        exact lp_till0 (j + 1) 0 _ hw hA hR hM (by omega) (by omega) hQ
      · refine jr_iload rfl rfl ?_
        refine jr_ic rfl ?_
        refine jr_iadd rfl ?_
        rw [jn_S]
        refine jr_goto rfl ?_
        refine jr_ist4 rfl rfl ?_
        refine jr_iinc5 rfl rfl ?_
        refine jr_goto rfl ?_
        rw [jn_S]
        have hlt : m + 1 < jz_nm hm b := jn_nle (show ¬ nI (jz_nm hm b) ≤ nI (m + 1) from c33) (by omega) (by omega)
        rw [hn, jw_dt, if_neg (fun z => c12 (congrArg nI z))] at hQ
        have e : jw_nx1 (jz_nm hm b) m = m + 1 := if_pos hlt
        rw [e] at hQ
        exact lp_till0 (j + 1) (m + 1) _ hw hA hR hM (by omega) (by omega) hQ
termination_by 6 - j
decreasing_by all_goals omega

set_option maxHeartbeats 800000 in
set_option maxRecDepth 100000 in
theorem ev_till0 {d : Nat} {h : jx_H} {Q : Option jx_V → jx_H → Prop} {hm : jx_H} {b r M m0 : Nat} (hw : jz_W hm b) (hA : jy_A h 0 r (jA hm)) (hR : jy_R h r hm b) (hmo : ¬ jC hm b 0 0 = 0) (hM : M < jz_nm hm b) (hm0 : jw_month (jC hm b) (jA hm) = nI m0) (hml : m0 < jz_nm hm b) (hQ : Q (some (jv_i (jw_dt (jC hm b 3) (jz_nm hm b) M 6 m0 0))) h) : jx_Ev jm_Cal_daysTill (d + 3) 0 0 false 0 [jv_r 1 0, jv_i (nI M), jv_i 0] h Q := by
  show jx_W (jm_Cal_daysTill, d + 3, 0, 0, false, 0, _) Q 0 0 0 [some (jv_r 1 0), some (jv_i (nI M)), some (jv_i 0), none, none, none] [] _
  refine jr_ic rfl ?_
  refine jr_ist3 rfl rfl ?_
  refine jr_aload rfl rfl ?_
  refine jr_cv0 (mc' := 0) (ms' := 0) rfl jm_Cal_nextMonth_n jm_Cal_nextMonth_f rfl rfl rfl rfl rfl rfl rfl (Nat.zero_le _) (Nat.zero_le _) ?_
  refine ev_Cal_nextMonth hw hA hR hmo ?_
  rw [hm0]
  refine jr_ist4 rfl rfl ?_
  refine jr_ic rfl ?_
  refine jr_ist5 rfl rfl ?_
  exact lp_till0 0 m0 0 hw hA hR hM hml (by omega) hQ

set_option maxHeartbeats 800000 in
set_option maxRecDepth 100000 in
theorem lp_till1 {d n0 : Nat} {Q : Option jx_V → jx_H → Prop} {h hm : jx_H} {b r M : Nat} (j m : Nat) (acc : Int32) (hw : jz_W hm b) (hA : jy_A h 0 r (jA hm)) (hR : jy_R h r hm b) (hM : M < jz_nm hm b) (hml : m < jz_nm hm b) (hj : j ≤ 6) (hQ : Q (some (jv_i (jw_dt (jC hm b 4) (jz_nm hm b) M (6 - j) m acc))) h)  : jx_W (jm_Cal_daysTill, d + 3, 0, 0, false, 0, n0) Q 0 0 7 [some (jv_r 1 0), some (jv_i (nI M)), some (jv_i 1), some (jv_i acc), some (jv_i (nI m)), some (jv_i (nI j))] [] h := by
  have hnm6 := hw.2.2.1.1.2
  refine jr_iload rfl rfl ?_
  refine jr_ic rfl ?_
  refine jr_icmp_ge rfl (fun c9 => ?_) (fun c9 => ?_)
  · refine jr_iload rfl rfl ?_
    refine jr_iret rfl rfl (Nat.zero_le _) (Nat.zero_le _) ?_
    have hj2 : 6 - j = 0 := by have := jn_le (show nI 6 ≤ nI j from c9) (by omega) (by omega); omega
    rw [hj2] at hQ
    exact hQ
  · have hj1 : j < 6 := jn_nle (show ¬ nI 6 ≤ nI j from c9) (by omega) (by omega)
    have hn : 6 - j = (6 - (j + 1)) + 1 := by omega
    refine jr_iload rfl rfl ?_
    refine jr_iload rfl rfl ?_
    refine jr_icmp_eq rfl (fun c12 => ?_) (fun c12 => ?_)
    · refine jr_iload rfl rfl ?_
      refine jr_iret rfl rfl (Nat.zero_le _) (Nat.zero_le _) ?_
      have e := jn_eq (show nI m = nI M from c12) (by omega) (by omega)
      rw [e, jw_dt_e] at hQ
      exact hQ
    · refine jr_iload rfl rfl ?_
      refine jr_iload rfl rfl ?_
      refine jr_if_eq rfl (fun z => absurd z (by decide)) (fun _ => ?_)
      refine jr_aload rfl rfl ?_
      refine jr_getM rfl rfl rfl rfl hA.1 ?_
      refine jr_iload rfl rfl ?_
      refine jr_cv1 (mc' := 0) (ms' := 0) rfl jm_Rep_mostOf_n jm_Rep_mostOf_f rfl rfl rfl rfl rfl rfl rfl (Nat.zero_le _) (Nat.zero_le _) ?_
      refine ev_Rep_mostOf (hm := hm) (b := b) hR hw.2.2.1.1 hml ?_
      refine jr_goto rfl ?_
      refine jr_iadd rfl ?_
      refine jr_ist3 rfl rfl ?_
      refine jr_iload rfl rfl ?_
      refine jr_ic rfl ?_
      refine jr_iadd rfl ?_
      rw [jn_S]
      refine jr_aload rfl rfl ?_
      refine jr_getM rfl rfl rfl rfl hA.1 ?_
      refine jr_getI rfl rfl ?_
      rw [show jh_I h 7 r 0 = nI (jz_nm hm b) from hR.1.trans hw.2.2.1.1.1]
      refine jr_icmp_ge rfl (fun c33 => ?_) (fun c33 => ?_)
      · refine jr_ic rfl ?_
        refine jr_ist4 rfl rfl ?_
        refine jr_iinc5 rfl rfl ?_
        refine jr_goto rfl ?_
        rw [jn_S]
        rw [hn, jw_dt, if_neg (fun z => c12 (congrArg nI z))] at hQ
        have e : jw_nx1 (jz_nm hm b) m = 0 := if_neg (by have := jn_le (show nI (jz_nm hm b) ≤ nI (m + 1) from c33) (by omega) (by omega); omega)
        rw [e] at hQ
        exact lp_till1 (j + 1) 0 _ hw hA hR hM (by omega) (by omega) hQ
      · refine jr_iload rfl rfl ?_
        refine jr_ic rfl ?_
        refine jr_iadd rfl ?_
        rw [jn_S]
        refine jr_goto rfl ?_
        refine jr_ist4 rfl rfl ?_
        refine jr_iinc5 rfl rfl ?_
        refine jr_goto rfl ?_
        rw [jn_S]
        have hlt : m + 1 < jz_nm hm b := jn_nle (show ¬ nI (jz_nm hm b) ≤ nI (m + 1) from c33) (by omega) (by omega)
        rw [hn, jw_dt, if_neg (fun z => c12 (congrArg nI z))] at hQ
        have e : jw_nx1 (jz_nm hm b) m = m + 1 := if_pos hlt
        rw [e] at hQ
        exact lp_till1 (j + 1) (m + 1) _ hw hA hR hM (by omega) (by omega) hQ
termination_by 6 - j
decreasing_by all_goals omega

set_option maxHeartbeats 800000 in
set_option maxRecDepth 100000 in
theorem ev_till1 {d : Nat} {h : jx_H} {Q : Option jx_V → jx_H → Prop} {hm : jx_H} {b r M m0 : Nat} (hw : jz_W hm b) (hA : jy_A h 0 r (jA hm)) (hR : jy_R h r hm b) (hmo : ¬ jC hm b 0 0 = 0) (hM : M < jz_nm hm b) (hm0 : jw_month (jC hm b) (jA hm) = nI m0) (hml : m0 < jz_nm hm b) (hQ : Q (some (jv_i (jw_dt (jC hm b 4) (jz_nm hm b) M 6 m0 0))) h) : jx_Ev jm_Cal_daysTill (d + 3) 0 0 false 0 [jv_r 1 0, jv_i (nI M), jv_i 1] h Q := by
  show jx_W (jm_Cal_daysTill, d + 3, 0, 0, false, 0, _) Q 0 0 0 [some (jv_r 1 0), some (jv_i (nI M)), some (jv_i 1), none, none, none] [] _
  refine jr_ic rfl ?_
  refine jr_ist3 rfl rfl ?_
  refine jr_aload rfl rfl ?_
  refine jr_cv0 (mc' := 0) (ms' := 0) rfl jm_Cal_nextMonth_n jm_Cal_nextMonth_f rfl rfl rfl rfl rfl rfl rfl (Nat.zero_le _) (Nat.zero_le _) ?_
  refine ev_Cal_nextMonth hw hA hR hmo ?_
  rw [hm0]
  refine jr_ist4 rfl rfl ?_
  refine jr_ic rfl ?_
  refine jr_ist5 rfl rfl ?_
  exact lp_till1 0 m0 0 hw hA hR hM hml (by omega) hQ

set_option maxHeartbeats 800000 in
set_option maxRecDepth 100000 in
theorem lp_soon {d n0 : Nat} {Q : Option jx_V → jx_H → Prop} {h hm : jx_H} {b r i M m0 f t u : Nat} {lt : Bool} (l : Nat) (hw : jz_W hm b) (hA : jy_A h 0 r (jA hm)) (hR : jy_R h r hm b) (hmo : ¬ jC hm b 0 0 = 0) (hd : jy_due h r hm b i) (hm10 : jC hm b 10 i = nI M) (hM : M < jz_nm hm b) (hf : jC hm b 3 M = nI f) (ht : jC hm b 4 M = nI t) (hft : f ≤ t) (ht31 : t ≤ 31) (hu : u ≤ 31) (hpd : ∀ l, l ≤ 40 → jw_paid (jC hm b) i (nI l) = nI (jw_pn lt u l)) (hm0 : jw_month (jC hm b) (jA hm) = nI m0) (hml : m0 < jz_nm hm b) (hl : l ≤ t + 1) (k0 : (∀ j, l ≤ j → j ≤ t → jw_pn lt u j = 0) → Q (some (jv_i (-1))) h) (k1 : ∀ j, l ≤ j → j ≤ t → ¬ jw_pn lt u j = 0 → (∀ q, l ≤ q → q < j → jw_pn lt u q = 0) → Q (some (jv_i (jw_dt (jC hm b 3) (jz_nm hm b) M 6 m0 0 + nI (jw_pn lt u j)))) h)  : jx_W (jm_Cal_soonestPaid, d + 4, 0, 0, false, 0, n0) Q 0 0 6 [some (jv_r 1 0), some (jv_r 2 (12 * r + i)), some (jv_i (nI l))] [] h := by
  refine jr_iload rfl rfl ?_
  refine jr_aload rfl rfl ?_
  refine jr_getM rfl rfl rfl rfl hA.1 ?_
  refine jr_aload rfl rfl ?_
  refine jr_getI rfl rfl ?_
  rw [show jh_I h 2 (12 * r + i) 4 = nI M from hd.2.2.2.2.1.trans hm10]
  refine jr_cv1 (mc' := 0) (ms' := 0) rfl jm_Rep_mostOf_n jm_Rep_mostOf_f rfl rfl rfl rfl rfl rfl rfl (Nat.zero_le _) (Nat.zero_le _) ?_
  refine ev_Rep_mostOf (hm := hm) (b := b) hR hw.2.2.1.1 hM ?_
  rw [ht]
  refine jr_icmp_gt rfl (fun c12 => ?_) (fun c12 => ?_)
  · refine jr_ic rfl ?_
    refine jr_iret rfl rfl (Nat.zero_le _) (Nat.zero_le _) ?_
    exact k0 (fun j h1 h2 => absurd h1 (by have := jn_lt (show nI t < nI l from c12) (by omega) (by omega); omega))
  · have hl1 : l ≤ t := jn_nlt (show ¬ nI t < nI l from c12) (by omega) (by omega)
    have hpb := @jw_pn_b lt u l hu (by omega)
    refine jr_aload rfl rfl ?_
    refine jr_iload rfl rfl ?_
    refine jr_cv1 (mc' := 0) (ms' := 0) rfl jm_Due_dayPaid_n jm_Due_dayPaid_f rfl rfl rfl rfl rfl rfl rfl (Nat.zero_le _) (Nat.zero_le _) ?_
    refine ev_Due_dayPaid (nI_pos' (by omega)) ?_
    rw [jy_pd_eq hd, hpd l (by omega)]
    refine jr_if_le rfl (fun c16 => ?_) (fun c16 => ?_)
    · refine jr_iinc2 rfl rfl ?_
      refine jr_goto rfl ?_
      rw [jn_S]
      have hz : jw_pn lt u l = 0 := by have := jn_le (show nI (jw_pn lt u l) ≤ nI 0 from c16) (by omega) (by omega); omega
      refine lp_soon (l + 1) hw hA hR hmo hd hm10 hM hf ht hft ht31 hu hpd hm0 hml (by omega) (fun g => k0 (fun j h1 h2 => ?_)) (fun j h1 h2 h3 h4 => k1 j (by omega) h2 h3 (fun q h5 h6 => ?_))
      · by_cases e : j = l
        · rw [e]; exact hz
        · exact g j (by omega) h2
      · by_cases e : q = l
        · rw [e]; exact hz
        · exact h4 q (by omega) h6
    · refine jr_aload rfl rfl ?_
      refine jr_aload rfl rfl ?_
      refine jr_getI rfl rfl ?_
      rw [show jh_I h 2 (12 * r + i) 4 = nI M from hd.2.2.2.2.1.trans hm10]
      refine jr_ic rfl ?_
      refine jr_cv2 (mc' := 0) (ms' := 0) rfl jm_Cal_daysTill_n jm_Cal_daysTill_f rfl rfl rfl rfl rfl rfl rfl (Nat.zero_le _) (Nat.zero_le _) ?_
      refine ev_till0 hw hA hR hmo hM hm0 hml ?_
      refine jr_aload rfl rfl ?_
      refine jr_iload rfl rfl ?_
      refine jr_cv1 (mc' := 0) (ms' := 0) rfl jm_Due_dayPaid_n jm_Due_dayPaid_f rfl rfl rfl rfl rfl rfl rfl (Nat.zero_le _) (Nat.zero_le _) ?_
      refine ev_Due_dayPaid (nI_pos' (by omega)) ?_
      rw [jy_pd_eq hd, hpd l (by omega)]
      refine jr_iadd rfl ?_
      refine jr_iret rfl rfl (Nat.zero_le _) (Nat.zero_le _) ?_
      exact k1 l (Nat.le_refl _) hl1 (fun z => c16 (by rw [z]; decide)) (fun q h5 h6 => absurd h6 (by omega))
termination_by t + 1 - l
decreasing_by all_goals omega

set_option maxHeartbeats 800000 in
set_option maxRecDepth 100000 in
theorem ev_soon {d : Nat} {h : jx_H} {Q : Option jx_V → jx_H → Prop} {hm : jx_H} {b r i M m0 f t u : Nat} {lt : Bool} (hw : jz_W hm b) (hA : jy_A h 0 r (jA hm)) (hR : jy_R h r hm b) (hmo : ¬ jC hm b 0 0 = 0) (hd : jy_due h r hm b i) (hm10 : jC hm b 10 i = nI M) (hM : M < jz_nm hm b) (hf : jC hm b 3 M = nI f) (ht : jC hm b 4 M = nI t) (hft : f ≤ t) (ht31 : t ≤ 31) (hu : u ≤ 31) (hpd : ∀ l, l ≤ 40 → jw_paid (jC hm b) i (nI l) = nI (jw_pn lt u l)) (hm0 : jw_month (jC hm b) (jA hm) = nI m0) (hml : m0 < jz_nm hm b) (k0 : (∀ j, f ≤ j → j ≤ t → jw_pn lt u j = 0) → Q (some (jv_i (-1))) h) (k1 : ∀ j, f ≤ j → j ≤ t → ¬ jw_pn lt u j = 0 → (∀ q, f ≤ q → q < j → jw_pn lt u q = 0) → Q (some (jv_i (jw_dt (jC hm b 3) (jz_nm hm b) M 6 m0 0 + nI (jw_pn lt u j)))) h)  : jx_Ev jm_Cal_soonestPaid (d + 4) 0 0 false 0 [jv_r 1 0, jv_r 2 (12 * r + i)] h Q := by
  show jx_W (jm_Cal_soonestPaid, d + 4, 0, 0, false, 0, _) Q 0 0 0 [some (jv_r 1 0), some (jv_r 2 (12 * r + i)), none] [] _
  refine jr_aload rfl rfl ?_
  refine jr_getM rfl rfl rfl rfl hA.1 ?_
  refine jr_aload rfl rfl ?_
  refine jr_getI rfl rfl ?_
  rw [show jh_I h 2 (12 * r + i) 4 = nI M from hd.2.2.2.2.1.trans hm10]
  refine jr_cv1 (mc' := 0) (ms' := 0) rfl jm_Rep_leastOf_n jm_Rep_leastOf_f rfl rfl rfl rfl rfl rfl rfl (Nat.zero_le _) (Nat.zero_le _) ?_
  refine ev_Rep_leastOf (hm := hm) (b := b) hR hw.2.2.1.1 hM ?_
  rw [hf]
  refine jr_ist2 rfl rfl ?_
  exact lp_soon f hw hA hR hmo hd hm10 hM hf ht hft ht31 hu hpd hm0 hml (by omega) k0 k1

set_option maxHeartbeats 800000 in
set_option maxRecDepth 100000 in
theorem ev_last {d : Nat} {h : jx_H} {Q : Option jx_V → jx_H → Prop} {hm : jx_H} {b r i M m0 f t u : Nat} {lt : Bool} (hw : jz_W hm b) (hA : jy_A h 0 r (jA hm)) (hR : jy_R h r hm b) (hmo : ¬ jC hm b 0 0 = 0) (hd : jy_due h r hm b i) (hm10 : jC hm b 10 i = nI M) (hM : M < jz_nm hm b) (hf : jC hm b 3 M = nI f) (ht : jC hm b 4 M = nI t) (hft : f ≤ t) (ht31 : t ≤ 31) (hu : u ≤ 31) (hpd : ∀ l, l ≤ 40 → jw_paid (jC hm b) i (nI l) = nI (jw_pn lt u l)) (hm0 : jw_month (jC hm b) (jA hm) = nI m0) (hml : m0 < jz_nm hm b) (k0 : jw_pn lt u t = 0 → Q (some (jv_i (-1))) h) (k1 : ¬ jw_pn lt u t = 0 → Q (some (jv_i (jw_dt (jC hm b 4) (jz_nm hm b) M 6 m0 0 + nI (jw_pn lt u t)))) h)  : jx_Ev jm_Cal_latestPaid (d + 4) 0 0 false 0 [jv_r 1 0, jv_r 2 (12 * r + i)] h Q := by
  show jx_W (jm_Cal_latestPaid, d + 4, 0, 0, false, 0, _) Q 0 0 0 [some (jv_r 1 0), some (jv_r 2 (12 * r + i)), none] [] _
  have hpb := @jw_pn_b lt u t hu (by omega)
  refine jr_aload rfl rfl ?_
  refine jr_aload rfl rfl ?_
  refine jr_getM rfl rfl rfl rfl hA.1 ?_
  refine jr_aload rfl rfl ?_
  refine jr_getI rfl rfl ?_
  rw [show jh_I h 2 (12 * r + i) 4 = nI M from hd.2.2.2.2.1.trans hm10]
  refine jr_cv1 (mc' := 0) (ms' := 0) rfl jm_Rep_mostOf_n jm_Rep_mostOf_f rfl rfl rfl rfl rfl rfl rfl (Nat.zero_le _) (Nat.zero_le _) ?_
  refine ev_Rep_mostOf (hm := hm) (b := b) hR hw.2.2.1.1 hM ?_
  rw [ht]
  refine jr_cv1 (mc' := 0) (ms' := 0) rfl jm_Due_dayPaid_n jm_Due_dayPaid_f rfl rfl rfl rfl rfl rfl rfl (Nat.zero_le _) (Nat.zero_le _) ?_
  refine ev_Due_dayPaid (nI_pos' (by omega)) ?_
  rw [jy_pd_eq hd, hpd t (by omega)]
  refine jr_ist2 rfl rfl ?_
  refine jr_iload rfl rfl ?_
  refine jr_if_le rfl (fun c9 => ?_) (fun c9 => ?_)
  · refine jr_ic rfl ?_
    refine jr_iret rfl rfl (Nat.zero_le _) (Nat.zero_le _) ?_
    exact k0 (by have := jn_le (show nI (jw_pn lt u t) ≤ nI 0 from c9) (by omega) (by omega); omega)
  · refine jr_aload rfl rfl ?_
    refine jr_aload rfl rfl ?_
    refine jr_getI rfl rfl ?_
    rw [show jh_I h 2 (12 * r + i) 4 = nI M from hd.2.2.2.2.1.trans hm10]
    refine jr_ic rfl ?_
    refine jr_cv2 (mc' := 0) (ms' := 0) rfl jm_Cal_daysTill_n jm_Cal_daysTill_f rfl rfl rfl rfl rfl rfl rfl (Nat.zero_le _) (Nat.zero_le _) ?_
    refine ev_till1 hw hA hR hmo hM hm0 hml ?_
    refine jr_iload rfl rfl ?_
    refine jr_iadd rfl ?_
    refine jr_goto rfl ?_
    refine jr_iret rfl rfl (Nat.zero_le _) (Nat.zero_le _) ?_
    exact k1 (fun z => c9 (by rw [z]; decide))

set_option maxHeartbeats 800000 in
set_option maxRecDepth 100000 in
theorem ev_lapse {d : Nat} {h : jx_H} {Q : Option jx_V → jx_H → Prop} {hm : jx_H} {b r i M m0 f t u : Nat} {lt : Bool} (hw : jz_W hm b) (hA : jy_A h 0 r (jA hm)) (hR : jy_R h r hm b) (hmo : ¬ jC hm b 0 0 = 0) (hd : jy_due h r hm b i) (hm10 : jC hm b 10 i = nI M) (hM : M < jz_nm hm b) (hf : jC hm b 3 M = nI f) (ht : jC hm b 4 M = nI t) (hft : f ≤ t) (ht31 : t ≤ 31) (hu : u ≤ 31) (hpd : ∀ l, l ≤ 40 → jw_paid (jC hm b) i (nI l) = nI (jw_pn lt u l)) (hm0 : jw_month (jC hm b) (jA hm) = nI m0) (hml : m0 < jz_nm hm b) (hQ : Q (some (jv_i (if jw_pn lt u f = 0 then 1 else 0))) h)  : jx_Ev jm_Cal_canLapse (d + 4) 0 0 false 0 [jv_r 1 0, jv_r 2 (12 * r + i)] h Q := by
  show jx_W (jm_Cal_canLapse, d + 4, 0, 0, false, 0, _) Q 0 0 0 [some (jv_r 1 0), some (jv_r 2 (12 * r + i))] [] _
  have hpb := @jw_pn_b lt u f hu (by omega)
  refine jr_aload rfl rfl ?_
  refine jr_aload rfl rfl ?_
  refine jr_getM rfl rfl rfl rfl hA.1 ?_
  refine jr_aload rfl rfl ?_
  refine jr_getI rfl rfl ?_
  rw [show jh_I h 2 (12 * r + i) 4 = nI M from hd.2.2.2.2.1.trans hm10]
  refine jr_cv1 (mc' := 0) (ms' := 0) rfl jm_Rep_leastOf_n jm_Rep_leastOf_f rfl rfl rfl rfl rfl rfl rfl (Nat.zero_le _) (Nat.zero_le _) ?_
  refine ev_Rep_leastOf (hm := hm) (b := b) hR hw.2.2.1.1 hM ?_
  rw [hf]
  refine jr_cv1 (mc' := 0) (ms' := 0) rfl jm_Due_dayPaid_n jm_Due_dayPaid_f rfl rfl rfl rfl rfl rfl rfl (Nat.zero_le _) (Nat.zero_le _) ?_
  refine ev_Due_dayPaid (nI_pos' (by omega)) ?_
  rw [jy_pd_eq hd, hpd f (by omega)]
  refine jr_if_ne rfl (fun c7 => ?_) (fun c7 => ?_)
  · refine jr_ic rfl ?_
    refine jr_zret rfl rfl rfl (Nat.zero_le _) (Nat.zero_le _) ?_
    rw [if_neg (fun z => c7 (by rw [z]; rfl))] at hQ
    exact hQ
  · refine jr_ic rfl ?_
    refine jr_goto rfl ?_
    refine jr_zret rfl rfl rfl (Nat.zero_le _) (Nat.zero_le _) ?_
    rw [if_pos (jn_eq (show nI (jw_pn lt u f) = nI 0 from c7) (by omega) (by omega))] at hQ
    exact hQ

set_option maxHeartbeats 800000 in
set_option maxRecDepth 100000 in
theorem lp_MD_till0 {d n0 : Nat} {Q : Option jx_V → jx_H → Prop} {hm : jx_H} {b i f t M : Nat} (n m : Nat) (acc : Int32) (hw : jz_W hm b) (hi : i < 12) (hmo : ¬ jC hm b 0 0 = 0) (hm10 : jC hm b 10 i = nI M) (hM : M < jz_nm hm b) (hml : m < jz_nm hm b) (hn : jw_ds (jz_nm hm b) M m ≤ n) (k : jx_W (jm_MD_span, d + 8, 0, 0, false, 1, n0) Q 0 0 113 [some (jv_r 11 0), some (jv_i (nI i)), some (jv_i 0), some (jv_i (nI (12 * b + i))), some (jv_i (nI f)), some (jv_i (nI t)), some (jv_i (jw_dt (jC hm b 3) (jz_nm hm b) M n m acc)), some (jv_i (nI M))] [] hm)  : jx_W (jm_MD_span, d + 8, 0, 0, false, 1, n0) Q 0 0 72 [some (jv_r 11 0), some (jv_i (nI i)), some (jv_i 0), some (jv_i (nI (12 * b + i))), some (jv_i (nI f)), some (jv_i (nI t)), some (jv_i acc), some (jv_i (nI m))] [] hm := by
  have hb2 := hw.2.1
  have hnm := hw.2.2.1.1
  have hnm6 := hnm.2
  refine jr_iload rfl rfl ?_
  refine jr_aload rfl rfl ?_
  refine jr_getR rfl rfl rfl rfl (Or.inl rfl) ?_
  refine jr_iload rfl rfl ?_
  refine jr_iald (len := 24) rfl rfl rfl (by omega) ?_
  rw [show jh_I hm 77 0 (12 * b + i) = nI M from hm10]
  refine jr_icmp_eq rfl (fun c77 => ?_) (fun c77 => ?_)
  · have e := jn_eq (show nI m = nI M from c77) (by omega) (by omega)
    subst e
    rw [jw_dt_e] at k
    exact k
  · refine jr_iload rfl rfl ?_
    refine jr_iload rfl rfl ?_
    refine jr_if_ne rfl (fun z => absurd (by decide) z) (fun _ => ?_)
    refine jr_aload rfl rfl ?_
    refine jr_getR rfl rfl rfl rfl (Or.inl rfl) ?_
    refine jr_ic rfl ?_
    refine jr_aload rfl rfl ?_
    refine jr_getI rfl rfl ?_
    refine jr_imul rfl ?_
    refine jr_iload rfl rfl ?_
    refine jr_iadd rfl ?_
    refine jr_iald (len := 12) rfl rfl (jn_add (jn_mul (show _ = nI 6 from rfl) hw.1) rfl) (by omega) ?_
    rw [show jh_I hm 70 0 (6 * b + m) = jC hm b 3 m from rfl]
    refine jr_goto rfl ?_
    refine jr_iadd rfl ?_
    refine jr_ist6 rfl rfl ?_
    refine jr_iload rfl rfl ?_
    refine jr_ic rfl ?_
    refine jr_iadd rfl ?_
    refine jr_aload rfl rfl ?_
    refine jr_getR rfl rfl rfl rfl (Or.inl rfl) ?_
    refine jr_aload rfl rfl ?_
    refine jr_getI rfl rfl ?_
    refine jr_iald (len := 2) rfl rfl hw.1 (by omega) ?_
    refine jr_irem rfl hmo ?_
    rw [jn_S, show jh_I hm 66 0 b = nI (jz_nm hm b) from hnm.1, show (nI (m + 1) - nI (m + 1) / nI (jz_nm hm b) * nI (jz_nm hm b)) = nI ((m + 1) % jz_nm hm b) from jn_rem (by omega) (by omega) (by omega), jw_nx1_mod hml]
    refine jr_ist7 rfl rfl ?_
    refine jr_goto rfl ?_
    have hmM : m ≠ M := fun z => c77 (congrArg nI z)
    have e := jw_ds_nx hml hM hmM
    obtain ⟨n', rfl⟩ : ∃ n', n = n' + 1 := ⟨n - 1, by omega⟩
    rw [jw_dt, if_neg hmM] at k
    exact lp_MD_till0 n' (jw_nx1 (jz_nm hm b) m) _ hw hi hmo hm10 hM (jw_nx1_lt hml) (by omega) k
termination_by n
decreasing_by all_goals omega

set_option maxHeartbeats 800000 in
set_option maxRecDepth 100000 in
theorem lp_MD_soon0 {d n0 : Nat} {Q : Option jx_V → jx_H → Prop} {hm : jx_H} {b i f t j u : Nat} {lt : Bool} {acc : Int32} (l : Nat) (hw : jz_W hm b) (hi : i < 12) (hu : u ≤ 31) (hpd : ∀ l, l ≤ 40 → jw_paid (jC hm b) i (nI l) = nI (jw_pn lt u l)) (hl : l ≤ j) (hj : j ≤ 31) (h0 : ¬ jw_pn lt u j = 0) (h1 : ∀ q, l ≤ q → q < j → jw_pn lt u q = 0) (hQ : Q (some (jv_i (acc + nI (jw_pn lt u j)))) hm)  : jx_W (jm_MD_span, d + 8, 0, 0, false, 1, n0) Q 0 0 119 [some (jv_r 11 0), some (jv_i (nI i)), some (jv_i 0), some (jv_i (nI (12 * b + i))), some (jv_i (nI f)), some (jv_i (nI t)), some (jv_i acc), some (jv_i (nI l))] [] hm := by
  have hb2 := hw.2.1
  have hpb := @jw_pn_b lt u l hu (by omega)
  refine jr_aload rfl rfl ?_
  refine jr_iload rfl rfl ?_
  refine jr_iload rfl rfl ?_
  refine jr_cv2 (mc' := 0) (ms' := 0) rfl jm_MD_paidOn_n jm_MD_paidOn_f rfl rfl rfl rfl rfl rfl rfl (Nat.zero_le _) (Nat.zero_le _) ?_
  refine ev_MD_paidOn (b := b) hw.1 hb2 (by omega) ?_
  rw [hpd l (by omega)]
  refine jr_if_ne rfl (fun c123 => ?_) (fun c123 => ?_)
  · refine jr_iload rfl rfl ?_
    refine jr_aload rfl rfl ?_
    refine jr_iload rfl rfl ?_
    refine jr_iload rfl rfl ?_
    refine jr_cv2 (mc' := 0) (ms' := 0) rfl jm_MD_paidOn_n jm_MD_paidOn_f rfl rfl rfl rfl rfl rfl rfl (Nat.zero_le _) (Nat.zero_le _) ?_
    refine ev_MD_paidOn (b := b) hw.1 hb2 (by omega) ?_
    rw [hpd l (by omega)]
    refine jr_iadd rfl ?_
    refine jr_iret rfl rfl (Nat.zero_le _) (Nat.zero_le _) ?_
    have hlj : l = j := by
      rcases Nat.lt_or_ge l j with g | g
      · exact absurd (congrArg nI (h1 l (Nat.le_refl _) g)) c123
      · omega
    rw [hlj]
    exact hQ
  · refine jr_iinc7 rfl rfl ?_
    refine jr_goto rfl ?_
    rw [jn_S]
    have e0 : jw_pn lt u l = 0 := jn_eq (show nI (jw_pn lt u l) = nI 0 from c123) (by omega) (by omega)
    have hlj : l ≠ j := fun z => h0 (z ▸ e0)
    exact lp_MD_soon0 (l + 1) hw hi hu hpd (by omega) hj h0 (fun q h5 h6 => h1 q (by omega) h6) hQ
termination_by j - l
decreasing_by all_goals omega

set_option maxHeartbeats 800000 in
set_option maxRecDepth 100000 in
theorem lp_MD_till1 {d n0 : Nat} {Q : Option jx_V → jx_H → Prop} {hm : jx_H} {b i f t M : Nat} (n m : Nat) (acc : Int32) (hw : jz_W hm b) (hi : i < 12) (hmo : ¬ jC hm b 0 0 = 0) (hm10 : jC hm b 10 i = nI M) (hM : M < jz_nm hm b) (hml : m < jz_nm hm b) (hn : jw_ds (jz_nm hm b) M m ≤ n) (k : jx_W (jm_MD_span, d + 8, 0, 0, false, 1, n0) Q 0 0 113 [some (jv_r 11 0), some (jv_i (nI i)), some (jv_i 1), some (jv_i (nI (12 * b + i))), some (jv_i (nI f)), some (jv_i (nI t)), some (jv_i (jw_dt (jC hm b 4) (jz_nm hm b) M n m acc)), some (jv_i (nI M))] [] hm)  : jx_W (jm_MD_span, d + 8, 0, 0, false, 1, n0) Q 0 0 72 [some (jv_r 11 0), some (jv_i (nI i)), some (jv_i 1), some (jv_i (nI (12 * b + i))), some (jv_i (nI f)), some (jv_i (nI t)), some (jv_i acc), some (jv_i (nI m))] [] hm := by
  have hb2 := hw.2.1
  have hnm := hw.2.2.1.1
  have hnm6 := hnm.2
  refine jr_iload rfl rfl ?_
  refine jr_aload rfl rfl ?_
  refine jr_getR rfl rfl rfl rfl (Or.inl rfl) ?_
  refine jr_iload rfl rfl ?_
  refine jr_iald (len := 24) rfl rfl rfl (by omega) ?_
  rw [show jh_I hm 77 0 (12 * b + i) = nI M from hm10]
  refine jr_icmp_eq rfl (fun c77 => ?_) (fun c77 => ?_)
  · have e := jn_eq (show nI m = nI M from c77) (by omega) (by omega)
    subst e
    rw [jw_dt_e] at k
    exact k
  · refine jr_iload rfl rfl ?_
    refine jr_iload rfl rfl ?_
    refine jr_if_ne rfl (fun _ => ?_) (fun z => absurd z (by decide))
    refine jr_aload rfl rfl ?_
    refine jr_getR rfl rfl rfl rfl (Or.inl rfl) ?_
    refine jr_ic rfl ?_
    refine jr_aload rfl rfl ?_
    refine jr_getI rfl rfl ?_
    refine jr_imul rfl ?_
    refine jr_iload rfl rfl ?_
    refine jr_iadd rfl ?_
    refine jr_iald (len := 12) rfl rfl (jn_add (jn_mul (show _ = nI 6 from rfl) hw.1) rfl) (by omega) ?_
    rw [show jh_I hm 71 0 (6 * b + m) = jC hm b 4 m from rfl]
    refine jr_iadd rfl ?_
    refine jr_ist6 rfl rfl ?_
    refine jr_iload rfl rfl ?_
    refine jr_ic rfl ?_
    refine jr_iadd rfl ?_
    refine jr_aload rfl rfl ?_
    refine jr_getR rfl rfl rfl rfl (Or.inl rfl) ?_
    refine jr_aload rfl rfl ?_
    refine jr_getI rfl rfl ?_
    refine jr_iald (len := 2) rfl rfl hw.1 (by omega) ?_
    refine jr_irem rfl hmo ?_
    rw [jn_S, show jh_I hm 66 0 b = nI (jz_nm hm b) from hnm.1, show (nI (m + 1) - nI (m + 1) / nI (jz_nm hm b) * nI (jz_nm hm b)) = nI ((m + 1) % jz_nm hm b) from jn_rem (by omega) (by omega) (by omega), jw_nx1_mod hml]
    refine jr_ist7 rfl rfl ?_
    refine jr_goto rfl ?_
    have hmM : m ≠ M := fun z => c77 (congrArg nI z)
    have e := jw_ds_nx hml hM hmM
    obtain ⟨n', rfl⟩ : ∃ n', n = n' + 1 := ⟨n - 1, by omega⟩
    rw [jw_dt, if_neg hmM] at k
    exact lp_MD_till1 n' (jw_nx1 (jz_nm hm b) m) _ hw hi hmo hm10 hM (jw_nx1_lt hml) (by omega) k
termination_by n
decreasing_by all_goals omega

set_option maxHeartbeats 800000 in
set_option maxRecDepth 100000 in
theorem lp_MD_soon1 {d n0 : Nat} {Q : Option jx_V → jx_H → Prop} {hm : jx_H} {b i f t j u : Nat} {lt : Bool} {acc : Int32} (l : Nat) (hw : jz_W hm b) (hi : i < 12) (hu : u ≤ 31) (hpd : ∀ l, l ≤ 40 → jw_paid (jC hm b) i (nI l) = nI (jw_pn lt u l)) (hl : l ≤ j) (hj : j ≤ 31) (h0 : ¬ jw_pn lt u j = 0) (h1 : ∀ q, l ≤ q → q < j → jw_pn lt u q = 0) (hQ : Q (some (jv_i (acc + nI (jw_pn lt u j)))) hm)  : jx_W (jm_MD_span, d + 8, 0, 0, false, 1, n0) Q 0 0 119 [some (jv_r 11 0), some (jv_i (nI i)), some (jv_i 1), some (jv_i (nI (12 * b + i))), some (jv_i (nI f)), some (jv_i (nI t)), some (jv_i acc), some (jv_i (nI l))] [] hm := by
  have hb2 := hw.2.1
  have hpb := @jw_pn_b lt u l hu (by omega)
  refine jr_aload rfl rfl ?_
  refine jr_iload rfl rfl ?_
  refine jr_iload rfl rfl ?_
  refine jr_cv2 (mc' := 0) (ms' := 0) rfl jm_MD_paidOn_n jm_MD_paidOn_f rfl rfl rfl rfl rfl rfl rfl (Nat.zero_le _) (Nat.zero_le _) ?_
  refine ev_MD_paidOn (b := b) hw.1 hb2 (by omega) ?_
  rw [hpd l (by omega)]
  refine jr_if_ne rfl (fun c123 => ?_) (fun c123 => ?_)
  · refine jr_iload rfl rfl ?_
    refine jr_aload rfl rfl ?_
    refine jr_iload rfl rfl ?_
    refine jr_iload rfl rfl ?_
    refine jr_cv2 (mc' := 0) (ms' := 0) rfl jm_MD_paidOn_n jm_MD_paidOn_f rfl rfl rfl rfl rfl rfl rfl (Nat.zero_le _) (Nat.zero_le _) ?_
    refine ev_MD_paidOn (b := b) hw.1 hb2 (by omega) ?_
    rw [hpd l (by omega)]
    refine jr_iadd rfl ?_
    refine jr_iret rfl rfl (Nat.zero_le _) (Nat.zero_le _) ?_
    have hlj : l = j := by
      rcases Nat.lt_or_ge l j with g | g
      · exact absurd (congrArg nI (h1 l (Nat.le_refl _) g)) c123
      · omega
    rw [hlj]
    exact hQ
  · refine jr_iinc7 rfl rfl ?_
    refine jr_goto rfl ?_
    rw [jn_S]
    have e0 : jw_pn lt u l = 0 := jn_eq (show nI (jw_pn lt u l) = nI 0 from c123) (by omega) (by omega)
    have hlj : l ≠ j := fun z => h0 (z ▸ e0)
    exact lp_MD_soon1 (l + 1) hw hi hu hpd (by omega) hj h0 (fun q h5 h6 => h1 q (by omega) h6) hQ
termination_by j - l
decreasing_by all_goals omega

theorem nI_n0 {a : Nat} (h : ¬ a = 0) (h2 : a < 2 ^ 31) : ¬ nI a = 0 := fun z => h (jn_eq (show nI a = nI 0 from z) h2 (by decide))
set_option maxHeartbeats 800000 in
set_option maxRecDepth 100000 in
theorem pd_span_0 {d : Nat} {hc hm : jx_H} {x : Int32} (hRel : jz_Rel hc hm) : jx_Ev jm_JV_span (d + 40) 0 0 false 0 [jv_r 10 0, jv_i x, jv_i 0] hc (fun r hc' => jx_Ev jm_MD_span (d + 40) 0 0 false 1 [jv_r 11 0, jv_i x, jv_i 0] hm (fun r' hm' => r = r' ∧ jz_Rel hc' hm')) := by
  have hRel0 := hRel
  obtain ⟨b, r, ⟨hw, hG, hr2, hto, hsp, hR, hA, hL⟩, hTa, hFa, hLy, hTi, hLe, hBo, hAc, hWo⟩ := hRel
  have hb2 := hw.2.1
  have hnd := hw.2.2.1.2.2.1
  have hnd5 := hnd.2
  have kd1 : (jh_I hc 7 r 5).toInt = (jz_nd hm b : Int) := by rw [hR.2.2.1]; exact (congrArg Int32.toInt hnd.1).trans (nI_toInt (by omega))
  have kd2 : (jh_I hm 68 0 b).toInt = (jz_nd hm b : Int) := (congrArg Int32.toInt hnd.1).trans (nI_toInt (by omega))
  have kd3 : (jh_I hm 68 0 b - 1).toInt = (jz_nd hm b : Int) - 1 := by rw [Int32.toInt_sub, kd2, show (1 : Int32).toInt = 1 from rfl]; exact jn_sm (by omega) (by omega)
  rcases nI_dec x (jz_nd hm b) (by omega) with ⟨i, rfl, hi, hi2⟩ | hi
  · have hnm := hw.2.2.1.1
    have hi12 : i < 12 := by omega
    have e3 := (hA.2.2.2.2 i (by omega)).2.2
    have e4 := jy_s01 (m := jh_I hm 98 0 36) (l := i) (by omega)
    obtain ⟨px, py, z, u, M, d1, d2, d3, d4, d5, d6, d7, d8, d9, d10, d11, d12, d13, d14⟩ := hw.2.2.1.2.2.2.2.1 i hi
    obtain ⟨f, t, hf, ht, hft, ht31⟩ := hw.2.2.1.2.2.2.1 M d13
    have hmo : ¬ jC hm b 0 0 = 0 := fun z0 => by
      have h1 := jz_gi (show jC hm b 0 0 = nI (jz_nm hm b) from hnm.1) (by omega)
      rw [z0] at h1
      have h0 : (0 : Int32).toInt = 0 := rfl
      omega
    obtain ⟨m0, hm0, hml⟩ := jz_mo hw hmo
    have hd := hR.2.2.2.2.2.1 i hi
    obtain ⟨lt, hpd⟩ : ∃ lt : Bool, ∀ l, l ≤ 40 → jw_paid (jC hm b) i (nI l) = nI (jw_pn lt u l) := by
      refine ⟨decide (¬ jC hm b 11 i = 0), fun l hl => ?_⟩
      unfold jw_paid jw_pn
      rw [d4]
      by_cases e : nI l < nI u
      · rw [if_pos e, if_pos (jn_lt e (by omega) (by omega))]
        by_cases g : jC hm b 11 i = 0
        · rw [if_pos g, decide_eq_false (show ¬ ¬ jC hm b 11 i = 0 from fun z => z g)]; rfl
        · rw [if_neg g, decide_eq_true g]; rfl
      · rw [if_neg e, if_neg (by have := jn_nlt e (by omega) (by omega); omega)]
    have hpt := @jw_pn_b lt u t d12 (by omega)
    have hpf := @jw_pn_b lt u f d12 (by omega)
    show jx_W (jm_JV_span, d + 40, 0, 0, false, 0, _) _ 0 0 0 [some (jv_r 10 0), some (jv_i (nI i)), some (jv_i 0)] [] _
    refine jr_aload rfl rfl ?_
    refine jr_getM rfl rfl rfl rfl hto ?_
    refine jr_iload rfl rfl ?_
    refine jr_cv1 (mc' := 0) (ms' := 0) rfl jm_Rep_hasDue_n jm_Rep_hasDue_f rfl rfl rfl rfl rfl rfl rfl (Nat.zero_le _) (Nat.zero_le _) ?_
    show jx_W (jm_Rep_hasDue, _, _, _, _, _, _) _ 0 0 0 [some _, some _] [] _
    refine jr_iload rfl rfl ?_
    refine jr_if_lt rfl (fun c1RephasDue => ?_) (fun c1RephasDue => ?_)
    · refine jr_ic rfl ?_
      refine jr_zret rfl rfl rfl (Nat.zero_le _) (Nat.zero_le _) ?_
      refine jr_if_eq rfl (fun _ => ?_) (fun z => absurd (by decide) z)
      refine jr_ic rfl ?_
      refine jr_iret rfl rfl (Nat.zero_le _) (Nat.zero_le _) ?_
      show jx_W (jm_MD_span, d + 40, 0, 0, false, 1, _) _ 0 0 0 [some _, some _, some _, none, none, none, none, none] [] _
      refine jr_aload rfl rfl ?_
      refine jr_iload rfl rfl ?_
      refine jr_cv1 (mc' := 0) (ms' := 0) rfl jm_MD_isDue_n jm_MD_isDue_f rfl rfl rfl rfl rfl rfl rfl (Nat.zero_le _) (Nat.zero_le _) ?_
      show jx_W (jm_MD_isDue, _, _, _, _, _, _) _ 0 0 0 [some _, some _] [] _
      refine jr_iload rfl rfl ?_
      refine jr_ic rfl ?_
      refine jr_aload rfl rfl ?_
      refine jr_cv0 (mc' := 0) (ms' := 0) rfl jm_MD_dueMany_n jm_MD_dueMany_f rfl rfl rfl rfl rfl rfl rfl (Nat.zero_le _) (Nat.zero_le _) ?_
      show jx_W (jm_MD_dueMany, _, _, _, _, _, _) _ 0 0 0 [some _] [] _
      refine jr_aload rfl rfl ?_
      refine jr_getR rfl rfl rfl rfl (Or.inl rfl) ?_
      refine jr_aload rfl rfl ?_
      refine jr_getI rfl rfl ?_
      refine jr_iald (len := 2) rfl rfl hw.1 (by omega) ?_
      refine jr_iret rfl rfl (Nat.zero_le _) (Nat.zero_le _) ?_
      refine jr_ic rfl ?_
      refine jr_isub rfl ?_
      refine jr_cs3 (mc' := 0) (ms' := 0) rfl jm_MD_isIn_n jm_MD_isIn_f rfl rfl rfl rfl rfl (Nat.zero_le _) (Nat.zero_le _) ?_
      show jx_W (jm_MD_isIn, _, _, _, _, _, _) _ 0 0 0 [some _, some _, some _] [] _
      refine jr_iload rfl rfl ?_
      refine jr_iload rfl rfl ?_
      refine jr_icmp_lt rfl (fun m2MDisIn => ?_) (fun m2MDisIn => ?_)
      · refine jr_ic rfl ?_
        refine jr_zret rfl rfl rfl (Nat.zero_le _) (Nat.zero_le _) ?_
        refine jr_zret rfl rfl rfl (Nat.zero_le _) (Nat.zero_le _) ?_
        refine jr_if_eq rfl (fun _ => ?_) (fun z => absurd (by decide) z)
        refine jr_ic rfl ?_
        refine jr_iret rfl rfl (Nat.zero_le _) (Nat.zero_le _) ?_
        first
          | exact ⟨rfl, hRel0⟩
          | (exfalso; omega)
          | (exfalso; simp (disch := omega) only [Int32.lt_iff_toInt_lt, Int32.le_iff_toInt_le, ← Int32.toInt_inj, Int32.reduceToInt, nI_toInt] at c1RephasDue m2MDisIn; done)
          | (exfalso; simp (disch := omega) only [Int32.lt_iff_toInt_lt, Int32.le_iff_toInt_le, ← Int32.toInt_inj, Int32.reduceToInt, nI_toInt] at c1RephasDue m2MDisIn; omega)
      · refine jr_iload rfl rfl ?_
        refine jr_iload rfl rfl ?_
        refine jr_icmp_gt rfl (fun m5MDisIn => ?_) (fun m5MDisIn => ?_)
        · refine jr_ic rfl ?_
          refine jr_zret rfl rfl rfl (Nat.zero_le _) (Nat.zero_le _) ?_
          refine jr_zret rfl rfl rfl (Nat.zero_le _) (Nat.zero_le _) ?_
          refine jr_if_eq rfl (fun _ => ?_) (fun z => absurd (by decide) z)
          refine jr_ic rfl ?_
          refine jr_iret rfl rfl (Nat.zero_le _) (Nat.zero_le _) ?_
          first
            | exact ⟨rfl, hRel0⟩
            | (exfalso; omega)
            | (exfalso; simp (disch := omega) only [Int32.lt_iff_toInt_lt, Int32.le_iff_toInt_le, ← Int32.toInt_inj, Int32.reduceToInt, nI_toInt] at c1RephasDue m2MDisIn m5MDisIn; done)
            | (exfalso; simp (disch := omega) only [Int32.lt_iff_toInt_lt, Int32.le_iff_toInt_le, ← Int32.toInt_inj, Int32.reduceToInt, nI_toInt] at c1RephasDue m2MDisIn m5MDisIn; omega)
        · refine jr_ic rfl ?_
          refine jr_goto rfl ?_
          refine jr_zret rfl rfl rfl (Nat.zero_le _) (Nat.zero_le _) ?_
          refine jr_zret rfl rfl rfl (Nat.zero_le _) (Nat.zero_le _) ?_
          refine jr_if_eq rfl (fun z => absurd z (by decide)) (fun _ => ?_)
          refine jr_aload rfl rfl ?_
          refine jr_iload rfl rfl ?_
          refine jr_cv1 (mc' := 0) (ms' := 0) rfl jm_MD_isForgiven_n jm_MD_isForgiven_f rfl rfl rfl rfl rfl rfl rfl (Nat.zero_le _) (Nat.zero_le _) ?_
          show jx_W (jm_MD_isForgiven, _, _, _, _, _, _) _ 0 0 0 [some _, some _] [] _
          refine jr_aload rfl rfl ?_
          refine jr_getR rfl rfl rfl rfl (Or.inl rfl) ?_
          refine jr_ic rfl ?_
          refine jr_iald (len := 337) rfl rfl (show _ = nI 36 from rfl) (by decide) ?_
          refine jr_iload rfl rfl ?_
          refine jr_ishr rfl ?_
          refine jr_ic rfl ?_
          refine jr_iand rfl ?_
          refine jr_ic rfl ?_
          refine jr_icmp_ne rfl (fun m9MDisForgiven => ?_) (fun m9MDisForgiven => ?_)
          · refine jr_ic rfl ?_
            refine jr_zret rfl rfl rfl (Nat.zero_le _) (Nat.zero_le _) ?_
            refine jr_if_ne rfl (fun z => absurd (by decide) z) (fun _ => ?_)
            refine jr_iload rfl rfl ?_
            refine jr_ic rfl ?_
            refine jr_ic rfl ?_
            refine jr_cs3 (mc' := 0) (ms' := 0) rfl jm_MD_isIn_n jm_MD_isIn_f rfl rfl rfl rfl rfl (Nat.zero_le _) (Nat.zero_le _) ?_
            show jx_W (jm_MD_isIn, _, _, _, _, _, _) _ 0 0 0 [some _, some _, some _] [] _
            refine jr_iload rfl rfl ?_
            refine jr_iload rfl rfl ?_
            refine jr_icmp_lt rfl (fun z => absurd z (by decide)) (fun _ => ?_)
            refine jr_iload rfl rfl ?_
            refine jr_iload rfl rfl ?_
            refine jr_icmp_gt rfl (fun z => absurd z (by decide)) (fun _ => ?_)
            refine jr_ic rfl ?_
            refine jr_goto rfl ?_
            refine jr_zret rfl rfl rfl (Nat.zero_le _) (Nat.zero_le _) ?_
            refine jr_if_ne rfl (fun _ => ?_) (fun z => absurd z (by decide))
            refine jr_ic rfl ?_
            refine jr_aload rfl rfl ?_
            refine jr_getI rfl rfl ?_
            refine jr_imul rfl ?_
            refine jr_iload rfl rfl ?_
            refine jr_iadd rfl ?_
            refine jr_ist3 rfl rfl ?_
            refine jr_aload rfl rfl ?_
            refine jr_getR rfl rfl rfl rfl (Or.inl rfl) ?_
            refine jr_ic rfl ?_
            refine jr_aload rfl rfl ?_
            refine jr_getI rfl rfl ?_
            refine jr_imul rfl ?_
            refine jr_aload rfl rfl ?_
            refine jr_getR rfl rfl rfl rfl (Or.inl rfl) ?_
            refine jr_iload rfl rfl ?_
            refine jr_iald (len := 24) rfl rfl (jn_add (jn_mul (show _ = nI 12 from rfl) hw.1) rfl) (by omega) ?_
            rw [show jh_I hm 77 0 (12 * b + i) = nI M from d5]
            refine jr_iadd rfl ?_
            refine jr_iald (len := 12) rfl rfl (jn_add (jn_mul (show _ = nI 6 from rfl) hw.1) rfl) (by omega) ?_
            rw [show jh_I hm 70 0 (6 * b + M) = nI f from hf]
            refine jr_ist4 rfl rfl ?_
            refine jr_aload rfl rfl ?_
            refine jr_getR rfl rfl rfl rfl (Or.inl rfl) ?_
            refine jr_ic rfl ?_
            refine jr_aload rfl rfl ?_
            refine jr_getI rfl rfl ?_
            refine jr_imul rfl ?_
            refine jr_aload rfl rfl ?_
            refine jr_getR rfl rfl rfl rfl (Or.inl rfl) ?_
            refine jr_iload rfl rfl ?_
            refine jr_iald (len := 24) rfl rfl (jn_add (jn_mul (show _ = nI 12 from rfl) hw.1) rfl) (by omega) ?_
            rw [show jh_I hm 77 0 (12 * b + i) = nI M from d5]
            refine jr_iadd rfl ?_
            refine jr_iald (len := 12) rfl rfl (jn_add (jn_mul (show _ = nI 6 from rfl) hw.1) rfl) (by omega) ?_
            rw [show jh_I hm 71 0 (6 * b + M) = nI t from ht]
            refine jr_ist5 rfl rfl ?_
            first
              | (exfalso; omega)
              | (exfalso; simp (disch := omega) only [Int32.lt_iff_toInt_lt, Int32.le_iff_toInt_le, ← Int32.toInt_inj, Int32.reduceToInt, nI_toInt] at c1RephasDue m2MDisIn m5MDisIn m9MDisForgiven; done)
              | (exfalso; simp (disch := omega) only [Int32.lt_iff_toInt_lt, Int32.le_iff_toInt_le, ← Int32.toInt_inj, Int32.reduceToInt, nI_toInt] at c1RephasDue m2MDisIn m5MDisIn m9MDisForgiven; omega)
          · refine jr_ic rfl ?_
            refine jr_goto rfl ?_
            refine jr_zret rfl rfl rfl (Nat.zero_le _) (Nat.zero_le _) ?_
            refine jr_if_ne rfl (fun _ => ?_) (fun z => absurd z (by decide))
            refine jr_ic rfl ?_
            refine jr_iret rfl rfl (Nat.zero_le _) (Nat.zero_le _) ?_
            first
              | exact ⟨rfl, hRel0⟩
              | (exfalso; omega)
              | (exfalso; simp (disch := omega) only [Int32.lt_iff_toInt_lt, Int32.le_iff_toInt_le, ← Int32.toInt_inj, Int32.reduceToInt, nI_toInt] at c1RephasDue m2MDisIn m5MDisIn m9MDisForgiven; done)
              | (exfalso; simp (disch := omega) only [Int32.lt_iff_toInt_lt, Int32.le_iff_toInt_le, ← Int32.toInt_inj, Int32.reduceToInt, nI_toInt] at c1RephasDue m2MDisIn m5MDisIn m9MDisForgiven; omega)
    · refine jr_iload rfl rfl ?_
      refine jr_aload rfl rfl ?_
      refine jr_getI rfl rfl ?_
      refine jr_icmp_ge rfl (fun c5RephasDue => ?_) (fun c5RephasDue => ?_)
      · refine jr_ic rfl ?_
        refine jr_zret rfl rfl rfl (Nat.zero_le _) (Nat.zero_le _) ?_
        refine jr_if_eq rfl (fun _ => ?_) (fun z => absurd (by decide) z)
        refine jr_ic rfl ?_
        refine jr_iret rfl rfl (Nat.zero_le _) (Nat.zero_le _) ?_
        show jx_W (jm_MD_span, d + 40, 0, 0, false, 1, _) _ 0 0 0 [some _, some _, some _, none, none, none, none, none] [] _
        refine jr_aload rfl rfl ?_
        refine jr_iload rfl rfl ?_
        refine jr_cv1 (mc' := 0) (ms' := 0) rfl jm_MD_isDue_n jm_MD_isDue_f rfl rfl rfl rfl rfl rfl rfl (Nat.zero_le _) (Nat.zero_le _) ?_
        show jx_W (jm_MD_isDue, _, _, _, _, _, _) _ 0 0 0 [some _, some _] [] _
        refine jr_iload rfl rfl ?_
        refine jr_ic rfl ?_
        refine jr_aload rfl rfl ?_
        refine jr_cv0 (mc' := 0) (ms' := 0) rfl jm_MD_dueMany_n jm_MD_dueMany_f rfl rfl rfl rfl rfl rfl rfl (Nat.zero_le _) (Nat.zero_le _) ?_
        show jx_W (jm_MD_dueMany, _, _, _, _, _, _) _ 0 0 0 [some _] [] _
        refine jr_aload rfl rfl ?_
        refine jr_getR rfl rfl rfl rfl (Or.inl rfl) ?_
        refine jr_aload rfl rfl ?_
        refine jr_getI rfl rfl ?_
        refine jr_iald (len := 2) rfl rfl hw.1 (by omega) ?_
        refine jr_iret rfl rfl (Nat.zero_le _) (Nat.zero_le _) ?_
        refine jr_ic rfl ?_
        refine jr_isub rfl ?_
        refine jr_cs3 (mc' := 0) (ms' := 0) rfl jm_MD_isIn_n jm_MD_isIn_f rfl rfl rfl rfl rfl (Nat.zero_le _) (Nat.zero_le _) ?_
        show jx_W (jm_MD_isIn, _, _, _, _, _, _) _ 0 0 0 [some _, some _, some _] [] _
        refine jr_iload rfl rfl ?_
        refine jr_iload rfl rfl ?_
        refine jr_icmp_lt rfl (fun m2MDisIn => ?_) (fun m2MDisIn => ?_)
        · refine jr_ic rfl ?_
          refine jr_zret rfl rfl rfl (Nat.zero_le _) (Nat.zero_le _) ?_
          refine jr_zret rfl rfl rfl (Nat.zero_le _) (Nat.zero_le _) ?_
          refine jr_if_eq rfl (fun _ => ?_) (fun z => absurd (by decide) z)
          refine jr_ic rfl ?_
          refine jr_iret rfl rfl (Nat.zero_le _) (Nat.zero_le _) ?_
          first
            | exact ⟨rfl, hRel0⟩
            | (exfalso; omega)
            | (exfalso; simp (disch := omega) only [Int32.lt_iff_toInt_lt, Int32.le_iff_toInt_le, ← Int32.toInt_inj, Int32.reduceToInt, nI_toInt] at c1RephasDue c5RephasDue m2MDisIn; done)
            | (exfalso; simp (disch := omega) only [Int32.lt_iff_toInt_lt, Int32.le_iff_toInt_le, ← Int32.toInt_inj, Int32.reduceToInt, nI_toInt] at c1RephasDue c5RephasDue m2MDisIn; omega)
        · refine jr_iload rfl rfl ?_
          refine jr_iload rfl rfl ?_
          refine jr_icmp_gt rfl (fun m5MDisIn => ?_) (fun m5MDisIn => ?_)
          · refine jr_ic rfl ?_
            refine jr_zret rfl rfl rfl (Nat.zero_le _) (Nat.zero_le _) ?_
            refine jr_zret rfl rfl rfl (Nat.zero_le _) (Nat.zero_le _) ?_
            refine jr_if_eq rfl (fun _ => ?_) (fun z => absurd (by decide) z)
            refine jr_ic rfl ?_
            refine jr_iret rfl rfl (Nat.zero_le _) (Nat.zero_le _) ?_
            first
              | exact ⟨rfl, hRel0⟩
              | (exfalso; omega)
              | (exfalso; simp (disch := omega) only [Int32.lt_iff_toInt_lt, Int32.le_iff_toInt_le, ← Int32.toInt_inj, Int32.reduceToInt, nI_toInt] at c1RephasDue c5RephasDue m2MDisIn m5MDisIn; done)
              | (exfalso; simp (disch := omega) only [Int32.lt_iff_toInt_lt, Int32.le_iff_toInt_le, ← Int32.toInt_inj, Int32.reduceToInt, nI_toInt] at c1RephasDue c5RephasDue m2MDisIn m5MDisIn; omega)
          · refine jr_ic rfl ?_
            refine jr_goto rfl ?_
            refine jr_zret rfl rfl rfl (Nat.zero_le _) (Nat.zero_le _) ?_
            refine jr_zret rfl rfl rfl (Nat.zero_le _) (Nat.zero_le _) ?_
            refine jr_if_eq rfl (fun z => absurd z (by decide)) (fun _ => ?_)
            refine jr_aload rfl rfl ?_
            refine jr_iload rfl rfl ?_
            refine jr_cv1 (mc' := 0) (ms' := 0) rfl jm_MD_isForgiven_n jm_MD_isForgiven_f rfl rfl rfl rfl rfl rfl rfl (Nat.zero_le _) (Nat.zero_le _) ?_
            show jx_W (jm_MD_isForgiven, _, _, _, _, _, _) _ 0 0 0 [some _, some _] [] _
            refine jr_aload rfl rfl ?_
            refine jr_getR rfl rfl rfl rfl (Or.inl rfl) ?_
            refine jr_ic rfl ?_
            refine jr_iald (len := 337) rfl rfl (show _ = nI 36 from rfl) (by decide) ?_
            refine jr_iload rfl rfl ?_
            refine jr_ishr rfl ?_
            refine jr_ic rfl ?_
            refine jr_iand rfl ?_
            refine jr_ic rfl ?_
            refine jr_icmp_ne rfl (fun m9MDisForgiven => ?_) (fun m9MDisForgiven => ?_)
            · refine jr_ic rfl ?_
              refine jr_zret rfl rfl rfl (Nat.zero_le _) (Nat.zero_le _) ?_
              refine jr_if_ne rfl (fun z => absurd (by decide) z) (fun _ => ?_)
              refine jr_iload rfl rfl ?_
              refine jr_ic rfl ?_
              refine jr_ic rfl ?_
              refine jr_cs3 (mc' := 0) (ms' := 0) rfl jm_MD_isIn_n jm_MD_isIn_f rfl rfl rfl rfl rfl (Nat.zero_le _) (Nat.zero_le _) ?_
              show jx_W (jm_MD_isIn, _, _, _, _, _, _) _ 0 0 0 [some _, some _, some _] [] _
              refine jr_iload rfl rfl ?_
              refine jr_iload rfl rfl ?_
              refine jr_icmp_lt rfl (fun z => absurd z (by decide)) (fun _ => ?_)
              refine jr_iload rfl rfl ?_
              refine jr_iload rfl rfl ?_
              refine jr_icmp_gt rfl (fun z => absurd z (by decide)) (fun _ => ?_)
              refine jr_ic rfl ?_
              refine jr_goto rfl ?_
              refine jr_zret rfl rfl rfl (Nat.zero_le _) (Nat.zero_le _) ?_
              refine jr_if_ne rfl (fun _ => ?_) (fun z => absurd z (by decide))
              refine jr_ic rfl ?_
              refine jr_aload rfl rfl ?_
              refine jr_getI rfl rfl ?_
              refine jr_imul rfl ?_
              refine jr_iload rfl rfl ?_
              refine jr_iadd rfl ?_
              refine jr_ist3 rfl rfl ?_
              refine jr_aload rfl rfl ?_
              refine jr_getR rfl rfl rfl rfl (Or.inl rfl) ?_
              refine jr_ic rfl ?_
              refine jr_aload rfl rfl ?_
              refine jr_getI rfl rfl ?_
              refine jr_imul rfl ?_
              refine jr_aload rfl rfl ?_
              refine jr_getR rfl rfl rfl rfl (Or.inl rfl) ?_
              refine jr_iload rfl rfl ?_
              refine jr_iald (len := 24) rfl rfl (jn_add (jn_mul (show _ = nI 12 from rfl) hw.1) rfl) (by omega) ?_
              rw [show jh_I hm 77 0 (12 * b + i) = nI M from d5]
              refine jr_iadd rfl ?_
              refine jr_iald (len := 12) rfl rfl (jn_add (jn_mul (show _ = nI 6 from rfl) hw.1) rfl) (by omega) ?_
              rw [show jh_I hm 70 0 (6 * b + M) = nI f from hf]
              refine jr_ist4 rfl rfl ?_
              refine jr_aload rfl rfl ?_
              refine jr_getR rfl rfl rfl rfl (Or.inl rfl) ?_
              refine jr_ic rfl ?_
              refine jr_aload rfl rfl ?_
              refine jr_getI rfl rfl ?_
              refine jr_imul rfl ?_
              refine jr_aload rfl rfl ?_
              refine jr_getR rfl rfl rfl rfl (Or.inl rfl) ?_
              refine jr_iload rfl rfl ?_
              refine jr_iald (len := 24) rfl rfl (jn_add (jn_mul (show _ = nI 12 from rfl) hw.1) rfl) (by omega) ?_
              rw [show jh_I hm 77 0 (12 * b + i) = nI M from d5]
              refine jr_iadd rfl ?_
              refine jr_iald (len := 12) rfl rfl (jn_add (jn_mul (show _ = nI 6 from rfl) hw.1) rfl) (by omega) ?_
              rw [show jh_I hm 71 0 (6 * b + M) = nI t from ht]
              refine jr_ist5 rfl rfl ?_
              first
                | (exfalso; omega)
                | (exfalso; simp (disch := omega) only [Int32.lt_iff_toInt_lt, Int32.le_iff_toInt_le, ← Int32.toInt_inj, Int32.reduceToInt, nI_toInt] at c1RephasDue c5RephasDue m2MDisIn m5MDisIn m9MDisForgiven; done)
                | (exfalso; simp (disch := omega) only [Int32.lt_iff_toInt_lt, Int32.le_iff_toInt_le, ← Int32.toInt_inj, Int32.reduceToInt, nI_toInt] at c1RephasDue c5RephasDue m2MDisIn m5MDisIn m9MDisForgiven; omega)
            · refine jr_ic rfl ?_
              refine jr_goto rfl ?_
              refine jr_zret rfl rfl rfl (Nat.zero_le _) (Nat.zero_le _) ?_
              refine jr_if_ne rfl (fun _ => ?_) (fun z => absurd z (by decide))
              refine jr_ic rfl ?_
              refine jr_iret rfl rfl (Nat.zero_le _) (Nat.zero_le _) ?_
              first
                | exact ⟨rfl, hRel0⟩
                | (exfalso; omega)
                | (exfalso; simp (disch := omega) only [Int32.lt_iff_toInt_lt, Int32.le_iff_toInt_le, ← Int32.toInt_inj, Int32.reduceToInt, nI_toInt] at c1RephasDue c5RephasDue m2MDisIn m5MDisIn m9MDisForgiven; done)
                | (exfalso; simp (disch := omega) only [Int32.lt_iff_toInt_lt, Int32.le_iff_toInt_le, ← Int32.toInt_inj, Int32.reduceToInt, nI_toInt] at c1RephasDue c5RephasDue m2MDisIn m5MDisIn m9MDisForgiven; omega)
      · refine jr_ic rfl ?_
        refine jr_goto rfl ?_
        refine jr_zret rfl rfl rfl (Nat.zero_le _) (Nat.zero_le _) ?_
        refine jr_if_eq rfl (fun z => absurd z (by decide)) (fun _ => ?_)
        refine jr_aload rfl rfl ?_
        refine jr_getR rfl rfl rfl rfl (Or.inl rfl) ?_
        refine jr_getR rfl rfl rfl rfl (Or.inl rfl) ?_
        refine jr_iload rfl rfl ?_
        refine jr_zald (len := 12) rfl rfl rfl (by omega) ?_
        rw [show jh_I hc 36 0 i = (jh_I hm 98 0 36 >>> (nI i &&& 31)) &&& 1 from e3]
        refine jr_if_eq rfl (fun c10 => ?_) (fun c10 => ?_)
        · refine jr_iload rfl rfl ?_
          refine jr_tsw rfl ?_
          refine ⟨fun _ => ?_, fun z => absurd (by decide) z⟩
          refine jr_aload rfl rfl ?_
          refine jr_getR rfl rfl rfl rfl (Or.inl rfl) ?_
          refine jr_aload rfl rfl ?_
          refine jr_getM rfl rfl rfl rfl hto ?_
          refine jr_iload rfl rfl ?_
          refine jr_cv1 (mc' := 0) (ms' := 0) rfl jm_Rep_dueAt_n jm_Rep_dueAt_f rfl rfl rfl rfl rfl rfl rfl (Nat.zero_le _) (Nat.zero_le _) ?_
          refine ev_Rep_dueAt (by omega) ?_
          refine jr_cv1 (mc' := 0) (ms' := 0) rfl jm_Cal_soonestPaid_n jm_Cal_soonestPaid_f rfl rfl rfl rfl rfl rfl rfl (Nat.zero_le _) (Nat.zero_le _) ?_
          refine ev_soon hw hA hR hmo hd d5 d13 hf ht hft ht31 d12 hpd hm0 hml (fun g0 => ?_) (fun j j1 j2 j3 j4 => ?_)
          · have hz : jw_pn lt u t = 0 := g0 t hft (Nat.le_refl _)
            refine jr_iret rfl rfl (Nat.zero_le _) (Nat.zero_le _) ?_
            show jx_W (jm_MD_span, d + 40, 0, 0, false, 1, _) _ 0 0 0 [some _, some _, some _, none, none, none, none, none] [] _
            refine jr_aload rfl rfl ?_
            refine jr_iload rfl rfl ?_
            refine jr_cv1 (mc' := 0) (ms' := 0) rfl jm_MD_isDue_n jm_MD_isDue_f rfl rfl rfl rfl rfl rfl rfl (Nat.zero_le _) (Nat.zero_le _) ?_
            show jx_W (jm_MD_isDue, _, _, _, _, _, _) _ 0 0 0 [some _, some _] [] _
            refine jr_iload rfl rfl ?_
            refine jr_ic rfl ?_
            refine jr_aload rfl rfl ?_
            refine jr_cv0 (mc' := 0) (ms' := 0) rfl jm_MD_dueMany_n jm_MD_dueMany_f rfl rfl rfl rfl rfl rfl rfl (Nat.zero_le _) (Nat.zero_le _) ?_
            show jx_W (jm_MD_dueMany, _, _, _, _, _, _) _ 0 0 0 [some _] [] _
            refine jr_aload rfl rfl ?_
            refine jr_getR rfl rfl rfl rfl (Or.inl rfl) ?_
            refine jr_aload rfl rfl ?_
            refine jr_getI rfl rfl ?_
            refine jr_iald (len := 2) rfl rfl hw.1 (by omega) ?_
            refine jr_iret rfl rfl (Nat.zero_le _) (Nat.zero_le _) ?_
            refine jr_ic rfl ?_
            refine jr_isub rfl ?_
            refine jr_cs3 (mc' := 0) (ms' := 0) rfl jm_MD_isIn_n jm_MD_isIn_f rfl rfl rfl rfl rfl (Nat.zero_le _) (Nat.zero_le _) ?_
            show jx_W (jm_MD_isIn, _, _, _, _, _, _) _ 0 0 0 [some _, some _, some _] [] _
            refine jr_iload rfl rfl ?_
            refine jr_iload rfl rfl ?_
            refine jr_icmp_lt rfl (fun m2MDisIn => ?_) (fun m2MDisIn => ?_)
            · refine jr_ic rfl ?_
              refine jr_zret rfl rfl rfl (Nat.zero_le _) (Nat.zero_le _) ?_
              refine jr_zret rfl rfl rfl (Nat.zero_le _) (Nat.zero_le _) ?_
              refine jr_if_eq rfl (fun _ => ?_) (fun z => absurd (by decide) z)
              refine jr_ic rfl ?_
              refine jr_iret rfl rfl (Nat.zero_le _) (Nat.zero_le _) ?_
              first
                | (exfalso; omega)
                | (exfalso; simp (disch := omega) only [Int32.lt_iff_toInt_lt, Int32.le_iff_toInt_le, ← Int32.toInt_inj, Int32.reduceToInt, nI_toInt] at c1RephasDue c5RephasDue c10 m2MDisIn; done)
                | (exfalso; simp (disch := omega) only [Int32.lt_iff_toInt_lt, Int32.le_iff_toInt_le, ← Int32.toInt_inj, Int32.reduceToInt, nI_toInt] at c1RephasDue c5RephasDue c10 m2MDisIn; omega)
            · refine jr_iload rfl rfl ?_
              refine jr_iload rfl rfl ?_
              refine jr_icmp_gt rfl (fun m5MDisIn => ?_) (fun m5MDisIn => ?_)
              · refine jr_ic rfl ?_
                refine jr_zret rfl rfl rfl (Nat.zero_le _) (Nat.zero_le _) ?_
                refine jr_zret rfl rfl rfl (Nat.zero_le _) (Nat.zero_le _) ?_
                refine jr_if_eq rfl (fun _ => ?_) (fun z => absurd (by decide) z)
                refine jr_ic rfl ?_
                refine jr_iret rfl rfl (Nat.zero_le _) (Nat.zero_le _) ?_
                first
                  | (exfalso; omega)
                  | (exfalso; simp (disch := omega) only [Int32.lt_iff_toInt_lt, Int32.le_iff_toInt_le, ← Int32.toInt_inj, Int32.reduceToInt, nI_toInt] at c1RephasDue c5RephasDue c10 m2MDisIn m5MDisIn; done)
                  | (exfalso; simp (disch := omega) only [Int32.lt_iff_toInt_lt, Int32.le_iff_toInt_le, ← Int32.toInt_inj, Int32.reduceToInt, nI_toInt] at c1RephasDue c5RephasDue c10 m2MDisIn m5MDisIn; omega)
              · refine jr_ic rfl ?_
                refine jr_goto rfl ?_
                refine jr_zret rfl rfl rfl (Nat.zero_le _) (Nat.zero_le _) ?_
                refine jr_zret rfl rfl rfl (Nat.zero_le _) (Nat.zero_le _) ?_
                refine jr_if_eq rfl (fun z => absurd z (by decide)) (fun _ => ?_)
                refine jr_aload rfl rfl ?_
                refine jr_iload rfl rfl ?_
                refine jr_cv1 (mc' := 0) (ms' := 0) rfl jm_MD_isForgiven_n jm_MD_isForgiven_f rfl rfl rfl rfl rfl rfl rfl (Nat.zero_le _) (Nat.zero_le _) ?_
                show jx_W (jm_MD_isForgiven, _, _, _, _, _, _) _ 0 0 0 [some _, some _] [] _
                refine jr_aload rfl rfl ?_
                refine jr_getR rfl rfl rfl rfl (Or.inl rfl) ?_
                refine jr_ic rfl ?_
                refine jr_iald (len := 337) rfl rfl (show _ = nI 36 from rfl) (by decide) ?_
                refine jr_iload rfl rfl ?_
                refine jr_ishr rfl ?_
                refine jr_ic rfl ?_
                refine jr_iand rfl ?_
                refine jr_ic rfl ?_
                refine jr_icmp_ne rfl (fun m9MDisForgiven => ?_) (fun m9MDisForgiven => ?_)
                · refine jr_ic rfl ?_
                  refine jr_zret rfl rfl rfl (Nat.zero_le _) (Nat.zero_le _) ?_
                  refine jr_if_ne rfl (fun z => absurd (by decide) z) (fun _ => ?_)
                  refine jr_iload rfl rfl ?_
                  refine jr_ic rfl ?_
                  refine jr_ic rfl ?_
                  refine jr_cs3 (mc' := 0) (ms' := 0) rfl jm_MD_isIn_n jm_MD_isIn_f rfl rfl rfl rfl rfl (Nat.zero_le _) (Nat.zero_le _) ?_
                  show jx_W (jm_MD_isIn, _, _, _, _, _, _) _ 0 0 0 [some _, some _, some _] [] _
                  refine jr_iload rfl rfl ?_
                  refine jr_iload rfl rfl ?_
                  refine jr_icmp_lt rfl (fun z => absurd z (by decide)) (fun _ => ?_)
                  refine jr_iload rfl rfl ?_
                  refine jr_iload rfl rfl ?_
                  refine jr_icmp_gt rfl (fun z => absurd z (by decide)) (fun _ => ?_)
                  refine jr_ic rfl ?_
                  refine jr_goto rfl ?_
                  refine jr_zret rfl rfl rfl (Nat.zero_le _) (Nat.zero_le _) ?_
                  refine jr_if_ne rfl (fun _ => ?_) (fun z => absurd z (by decide))
                  refine jr_ic rfl ?_
                  refine jr_aload rfl rfl ?_
                  refine jr_getI rfl rfl ?_
                  refine jr_imul rfl ?_
                  refine jr_iload rfl rfl ?_
                  refine jr_iadd rfl ?_
                  rw [show (12 : Int32) * jh_I hm 11 0 43 + nI i = nI (12 * b + i) from jn_add (jn_mul (show (12 : Int32) = nI 12 from rfl) hw.1) rfl]
                  refine jr_ist3 rfl rfl ?_
                  refine jr_aload rfl rfl ?_
                  refine jr_getR rfl rfl rfl rfl (Or.inl rfl) ?_
                  refine jr_ic rfl ?_
                  refine jr_aload rfl rfl ?_
                  refine jr_getI rfl rfl ?_
                  refine jr_imul rfl ?_
                  refine jr_aload rfl rfl ?_
                  refine jr_getR rfl rfl rfl rfl (Or.inl rfl) ?_
                  refine jr_iload rfl rfl ?_
                  refine jr_iald (len := 24) rfl rfl rfl (by omega) ?_
                  rw [show jh_I hm 77 0 (12 * b + i) = nI M from d5]
                  refine jr_iadd rfl ?_
                  refine jr_iald (len := 12) rfl rfl (jn_add (jn_mul (show _ = nI 6 from rfl) hw.1) rfl) (by omega) ?_
                  rw [show jh_I hm 70 0 (6 * b + M) = nI f from hf]
                  refine jr_ist4 rfl rfl ?_
                  refine jr_aload rfl rfl ?_
                  refine jr_getR rfl rfl rfl rfl (Or.inl rfl) ?_
                  refine jr_ic rfl ?_
                  refine jr_aload rfl rfl ?_
                  refine jr_getI rfl rfl ?_
                  refine jr_imul rfl ?_
                  refine jr_aload rfl rfl ?_
                  refine jr_getR rfl rfl rfl rfl (Or.inl rfl) ?_
                  refine jr_iload rfl rfl ?_
                  refine jr_iald (len := 24) rfl rfl rfl (by omega) ?_
                  rw [show jh_I hm 77 0 (12 * b + i) = nI M from d5]
                  refine jr_iadd rfl ?_
                  refine jr_iald (len := 12) rfl rfl (jn_add (jn_mul (show _ = nI 6 from rfl) hw.1) rfl) (by omega) ?_
                  rw [show jh_I hm 71 0 (6 * b + M) = nI t from ht]
                  refine jr_ist5 rfl rfl ?_
                  refine jr_iload rfl rfl ?_
                  refine jr_ic rfl ?_
                  refine jr_icmp_ne rfl (fun _ => ?_) (fun z => absurd z (by decide))
                  refine jr_aload rfl rfl ?_
                  refine jr_iload rfl rfl ?_
                  refine jr_iload rfl rfl ?_
                  refine jr_cv2 (mc' := 0) (ms' := 0) rfl jm_MD_paidOn_n jm_MD_paidOn_f rfl rfl rfl rfl rfl rfl rfl (Nat.zero_le _) (Nat.zero_le _) ?_
                  refine ev_MD_paidOn (b := b) hw.1 hb2 (by omega) ?_
                  rw [hpd t (by omega)]
                  refine jr_if_ne rfl (fun z => absurd (show nI (jw_pn lt u t) = 0 from congrArg nI hz) z) (fun _ => ?_)
                  refine jr_ic rfl ?_
                  refine jr_iret rfl rfl (Nat.zero_le _) (Nat.zero_le _) ?_
                  exact ⟨rfl, hRel0⟩
                · refine jr_ic rfl ?_
                  refine jr_goto rfl ?_
                  refine jr_zret rfl rfl rfl (Nat.zero_le _) (Nat.zero_le _) ?_
                  refine jr_if_ne rfl (fun _ => ?_) (fun z => absurd z (by decide))
                  refine jr_ic rfl ?_
                  refine jr_iret rfl rfl (Nat.zero_le _) (Nat.zero_le _) ?_
                  first
                    | (exfalso; omega)
                    | (exfalso; simp (disch := omega) only [Int32.lt_iff_toInt_lt, Int32.le_iff_toInt_le, ← Int32.toInt_inj, Int32.reduceToInt, nI_toInt] at c1RephasDue c5RephasDue c10 m2MDisIn m5MDisIn m9MDisForgiven; done)
                    | (exfalso; simp (disch := omega) only [Int32.lt_iff_toInt_lt, Int32.le_iff_toInt_le, ← Int32.toInt_inj, Int32.reduceToInt, nI_toInt] at c1RephasDue c5RephasDue c10 m2MDisIn m5MDisIn m9MDisForgiven; omega)
          · have hz : ¬ jw_pn lt u t = 0 := jw_pn_mono j2 j3
            refine jr_iret rfl rfl (Nat.zero_le _) (Nat.zero_le _) ?_
            show jx_W (jm_MD_span, d + 40, 0, 0, false, 1, _) _ 0 0 0 [some _, some _, some _, none, none, none, none, none] [] _
            refine jr_aload rfl rfl ?_
            refine jr_iload rfl rfl ?_
            refine jr_cv1 (mc' := 0) (ms' := 0) rfl jm_MD_isDue_n jm_MD_isDue_f rfl rfl rfl rfl rfl rfl rfl (Nat.zero_le _) (Nat.zero_le _) ?_
            show jx_W (jm_MD_isDue, _, _, _, _, _, _) _ 0 0 0 [some _, some _] [] _
            refine jr_iload rfl rfl ?_
            refine jr_ic rfl ?_
            refine jr_aload rfl rfl ?_
            refine jr_cv0 (mc' := 0) (ms' := 0) rfl jm_MD_dueMany_n jm_MD_dueMany_f rfl rfl rfl rfl rfl rfl rfl (Nat.zero_le _) (Nat.zero_le _) ?_
            show jx_W (jm_MD_dueMany, _, _, _, _, _, _) _ 0 0 0 [some _] [] _
            refine jr_aload rfl rfl ?_
            refine jr_getR rfl rfl rfl rfl (Or.inl rfl) ?_
            refine jr_aload rfl rfl ?_
            refine jr_getI rfl rfl ?_
            refine jr_iald (len := 2) rfl rfl hw.1 (by omega) ?_
            refine jr_iret rfl rfl (Nat.zero_le _) (Nat.zero_le _) ?_
            refine jr_ic rfl ?_
            refine jr_isub rfl ?_
            refine jr_cs3 (mc' := 0) (ms' := 0) rfl jm_MD_isIn_n jm_MD_isIn_f rfl rfl rfl rfl rfl (Nat.zero_le _) (Nat.zero_le _) ?_
            show jx_W (jm_MD_isIn, _, _, _, _, _, _) _ 0 0 0 [some _, some _, some _] [] _
            refine jr_iload rfl rfl ?_
            refine jr_iload rfl rfl ?_
            refine jr_icmp_lt rfl (fun m2MDisIn => ?_) (fun m2MDisIn => ?_)
            · refine jr_ic rfl ?_
              refine jr_zret rfl rfl rfl (Nat.zero_le _) (Nat.zero_le _) ?_
              refine jr_zret rfl rfl rfl (Nat.zero_le _) (Nat.zero_le _) ?_
              refine jr_if_eq rfl (fun _ => ?_) (fun z => absurd (by decide) z)
              refine jr_ic rfl ?_
              refine jr_iret rfl rfl (Nat.zero_le _) (Nat.zero_le _) ?_
              first
                | (exfalso; omega)
                | (exfalso; simp (disch := omega) only [Int32.lt_iff_toInt_lt, Int32.le_iff_toInt_le, ← Int32.toInt_inj, Int32.reduceToInt, nI_toInt] at c1RephasDue c5RephasDue c10 m2MDisIn; done)
                | (exfalso; simp (disch := omega) only [Int32.lt_iff_toInt_lt, Int32.le_iff_toInt_le, ← Int32.toInt_inj, Int32.reduceToInt, nI_toInt] at c1RephasDue c5RephasDue c10 m2MDisIn; omega)
            · refine jr_iload rfl rfl ?_
              refine jr_iload rfl rfl ?_
              refine jr_icmp_gt rfl (fun m5MDisIn => ?_) (fun m5MDisIn => ?_)
              · refine jr_ic rfl ?_
                refine jr_zret rfl rfl rfl (Nat.zero_le _) (Nat.zero_le _) ?_
                refine jr_zret rfl rfl rfl (Nat.zero_le _) (Nat.zero_le _) ?_
                refine jr_if_eq rfl (fun _ => ?_) (fun z => absurd (by decide) z)
                refine jr_ic rfl ?_
                refine jr_iret rfl rfl (Nat.zero_le _) (Nat.zero_le _) ?_
                first
                  | (exfalso; omega)
                  | (exfalso; simp (disch := omega) only [Int32.lt_iff_toInt_lt, Int32.le_iff_toInt_le, ← Int32.toInt_inj, Int32.reduceToInt, nI_toInt] at c1RephasDue c5RephasDue c10 m2MDisIn m5MDisIn; done)
                  | (exfalso; simp (disch := omega) only [Int32.lt_iff_toInt_lt, Int32.le_iff_toInt_le, ← Int32.toInt_inj, Int32.reduceToInt, nI_toInt] at c1RephasDue c5RephasDue c10 m2MDisIn m5MDisIn; omega)
              · refine jr_ic rfl ?_
                refine jr_goto rfl ?_
                refine jr_zret rfl rfl rfl (Nat.zero_le _) (Nat.zero_le _) ?_
                refine jr_zret rfl rfl rfl (Nat.zero_le _) (Nat.zero_le _) ?_
                refine jr_if_eq rfl (fun z => absurd z (by decide)) (fun _ => ?_)
                refine jr_aload rfl rfl ?_
                refine jr_iload rfl rfl ?_
                refine jr_cv1 (mc' := 0) (ms' := 0) rfl jm_MD_isForgiven_n jm_MD_isForgiven_f rfl rfl rfl rfl rfl rfl rfl (Nat.zero_le _) (Nat.zero_le _) ?_
                show jx_W (jm_MD_isForgiven, _, _, _, _, _, _) _ 0 0 0 [some _, some _] [] _
                refine jr_aload rfl rfl ?_
                refine jr_getR rfl rfl rfl rfl (Or.inl rfl) ?_
                refine jr_ic rfl ?_
                refine jr_iald (len := 337) rfl rfl (show _ = nI 36 from rfl) (by decide) ?_
                refine jr_iload rfl rfl ?_
                refine jr_ishr rfl ?_
                refine jr_ic rfl ?_
                refine jr_iand rfl ?_
                refine jr_ic rfl ?_
                refine jr_icmp_ne rfl (fun m9MDisForgiven => ?_) (fun m9MDisForgiven => ?_)
                · refine jr_ic rfl ?_
                  refine jr_zret rfl rfl rfl (Nat.zero_le _) (Nat.zero_le _) ?_
                  refine jr_if_ne rfl (fun z => absurd (by decide) z) (fun _ => ?_)
                  refine jr_iload rfl rfl ?_
                  refine jr_ic rfl ?_
                  refine jr_ic rfl ?_
                  refine jr_cs3 (mc' := 0) (ms' := 0) rfl jm_MD_isIn_n jm_MD_isIn_f rfl rfl rfl rfl rfl (Nat.zero_le _) (Nat.zero_le _) ?_
                  show jx_W (jm_MD_isIn, _, _, _, _, _, _) _ 0 0 0 [some _, some _, some _] [] _
                  refine jr_iload rfl rfl ?_
                  refine jr_iload rfl rfl ?_
                  refine jr_icmp_lt rfl (fun z => absurd z (by decide)) (fun _ => ?_)
                  refine jr_iload rfl rfl ?_
                  refine jr_iload rfl rfl ?_
                  refine jr_icmp_gt rfl (fun z => absurd z (by decide)) (fun _ => ?_)
                  refine jr_ic rfl ?_
                  refine jr_goto rfl ?_
                  refine jr_zret rfl rfl rfl (Nat.zero_le _) (Nat.zero_le _) ?_
                  refine jr_if_ne rfl (fun _ => ?_) (fun z => absurd z (by decide))
                  refine jr_ic rfl ?_
                  refine jr_aload rfl rfl ?_
                  refine jr_getI rfl rfl ?_
                  refine jr_imul rfl ?_
                  refine jr_iload rfl rfl ?_
                  refine jr_iadd rfl ?_
                  rw [show (12 : Int32) * jh_I hm 11 0 43 + nI i = nI (12 * b + i) from jn_add (jn_mul (show (12 : Int32) = nI 12 from rfl) hw.1) rfl]
                  refine jr_ist3 rfl rfl ?_
                  refine jr_aload rfl rfl ?_
                  refine jr_getR rfl rfl rfl rfl (Or.inl rfl) ?_
                  refine jr_ic rfl ?_
                  refine jr_aload rfl rfl ?_
                  refine jr_getI rfl rfl ?_
                  refine jr_imul rfl ?_
                  refine jr_aload rfl rfl ?_
                  refine jr_getR rfl rfl rfl rfl (Or.inl rfl) ?_
                  refine jr_iload rfl rfl ?_
                  refine jr_iald (len := 24) rfl rfl rfl (by omega) ?_
                  rw [show jh_I hm 77 0 (12 * b + i) = nI M from d5]
                  refine jr_iadd rfl ?_
                  refine jr_iald (len := 12) rfl rfl (jn_add (jn_mul (show _ = nI 6 from rfl) hw.1) rfl) (by omega) ?_
                  rw [show jh_I hm 70 0 (6 * b + M) = nI f from hf]
                  refine jr_ist4 rfl rfl ?_
                  refine jr_aload rfl rfl ?_
                  refine jr_getR rfl rfl rfl rfl (Or.inl rfl) ?_
                  refine jr_ic rfl ?_
                  refine jr_aload rfl rfl ?_
                  refine jr_getI rfl rfl ?_
                  refine jr_imul rfl ?_
                  refine jr_aload rfl rfl ?_
                  refine jr_getR rfl rfl rfl rfl (Or.inl rfl) ?_
                  refine jr_iload rfl rfl ?_
                  refine jr_iald (len := 24) rfl rfl rfl (by omega) ?_
                  rw [show jh_I hm 77 0 (12 * b + i) = nI M from d5]
                  refine jr_iadd rfl ?_
                  refine jr_iald (len := 12) rfl rfl (jn_add (jn_mul (show _ = nI 6 from rfl) hw.1) rfl) (by omega) ?_
                  rw [show jh_I hm 71 0 (6 * b + M) = nI t from ht]
                  refine jr_ist5 rfl rfl ?_
                  refine jr_iload rfl rfl ?_
                  refine jr_ic rfl ?_
                  refine jr_icmp_ne rfl (fun _ => ?_) (fun z => absurd z (by decide))
                  refine jr_aload rfl rfl ?_
                  refine jr_iload rfl rfl ?_
                  refine jr_iload rfl rfl ?_
                  refine jr_cv2 (mc' := 0) (ms' := 0) rfl jm_MD_paidOn_n jm_MD_paidOn_f rfl rfl rfl rfl rfl rfl rfl (Nat.zero_le _) (Nat.zero_le _) ?_
                  refine ev_MD_paidOn (b := b) hw.1 hb2 (by omega) ?_
                  rw [hpd t (by omega)]
                  refine jr_if_ne rfl (fun _ => ?_) (fun z => absurd z (nI_n0 hz (by omega)))
                  refine jr_ic rfl ?_
                  refine jr_ist6 rfl rfl ?_
                  refine jr_aload rfl rfl ?_
                  refine jr_cv0 (mc' := 0) (ms' := 0) rfl jm_MD_month_n jm_MD_month_f rfl rfl rfl rfl rfl rfl rfl (Nat.zero_le _) (Nat.zero_le _) ?_
                  refine ev_MD_month (b := b) hw.1 hb2 hmo ?_
                  rw [hm0]
                  refine jr_ist7 rfl rfl ?_
                  refine lp_MD_till0 6 m0 0 hw hi12 hmo d5 d13 hml (by have := jw_ds_lt hml d13; omega) ?_
                  refine jr_iload rfl rfl ?_
                  refine jr_if_ne rfl (fun z => absurd (by decide) z) (fun _ => ?_)
                  refine jr_iload rfl rfl ?_
                  refine jr_goto rfl ?_
                  refine jr_ist7 rfl rfl ?_
                  exact lp_MD_soon0 f hw hi12 d12 hpd j1 (by omega) j3 j4 ⟨rfl, hRel0⟩
                · refine jr_ic rfl ?_
                  refine jr_goto rfl ?_
                  refine jr_zret rfl rfl rfl (Nat.zero_le _) (Nat.zero_le _) ?_
                  refine jr_if_ne rfl (fun _ => ?_) (fun z => absurd z (by decide))
                  refine jr_ic rfl ?_
                  refine jr_iret rfl rfl (Nat.zero_le _) (Nat.zero_le _) ?_
                  first
                    | (exfalso; omega)
                    | (exfalso; simp (disch := omega) only [Int32.lt_iff_toInt_lt, Int32.le_iff_toInt_le, ← Int32.toInt_inj, Int32.reduceToInt, nI_toInt] at c1RephasDue c5RephasDue c10 m2MDisIn m5MDisIn m9MDisForgiven; done)
                    | (exfalso; simp (disch := omega) only [Int32.lt_iff_toInt_lt, Int32.le_iff_toInt_le, ← Int32.toInt_inj, Int32.reduceToInt, nI_toInt] at c1RephasDue c5RephasDue c10 m2MDisIn m5MDisIn m9MDisForgiven; omega)
        · refine jr_ic rfl ?_
          refine jr_iret rfl rfl (Nat.zero_le _) (Nat.zero_le _) ?_
          show jx_W (jm_MD_span, d + 40, 0, 0, false, 1, _) _ 0 0 0 [some _, some _, some _, none, none, none, none, none] [] _
          refine jr_aload rfl rfl ?_
          refine jr_iload rfl rfl ?_
          refine jr_cv1 (mc' := 0) (ms' := 0) rfl jm_MD_isDue_n jm_MD_isDue_f rfl rfl rfl rfl rfl rfl rfl (Nat.zero_le _) (Nat.zero_le _) ?_
          show jx_W (jm_MD_isDue, _, _, _, _, _, _) _ 0 0 0 [some _, some _] [] _
          refine jr_iload rfl rfl ?_
          refine jr_ic rfl ?_
          refine jr_aload rfl rfl ?_
          refine jr_cv0 (mc' := 0) (ms' := 0) rfl jm_MD_dueMany_n jm_MD_dueMany_f rfl rfl rfl rfl rfl rfl rfl (Nat.zero_le _) (Nat.zero_le _) ?_
          show jx_W (jm_MD_dueMany, _, _, _, _, _, _) _ 0 0 0 [some _] [] _
          refine jr_aload rfl rfl ?_
          refine jr_getR rfl rfl rfl rfl (Or.inl rfl) ?_
          refine jr_aload rfl rfl ?_
          refine jr_getI rfl rfl ?_
          refine jr_iald (len := 2) rfl rfl hw.1 (by omega) ?_
          refine jr_iret rfl rfl (Nat.zero_le _) (Nat.zero_le _) ?_
          refine jr_ic rfl ?_
          refine jr_isub rfl ?_
          refine jr_cs3 (mc' := 0) (ms' := 0) rfl jm_MD_isIn_n jm_MD_isIn_f rfl rfl rfl rfl rfl (Nat.zero_le _) (Nat.zero_le _) ?_
          show jx_W (jm_MD_isIn, _, _, _, _, _, _) _ 0 0 0 [some _, some _, some _] [] _
          refine jr_iload rfl rfl ?_
          refine jr_iload rfl rfl ?_
          refine jr_icmp_lt rfl (fun m2MDisIn => ?_) (fun m2MDisIn => ?_)
          · refine jr_ic rfl ?_
            refine jr_zret rfl rfl rfl (Nat.zero_le _) (Nat.zero_le _) ?_
            refine jr_zret rfl rfl rfl (Nat.zero_le _) (Nat.zero_le _) ?_
            refine jr_if_eq rfl (fun _ => ?_) (fun z => absurd (by decide) z)
            refine jr_ic rfl ?_
            refine jr_iret rfl rfl (Nat.zero_le _) (Nat.zero_le _) ?_
            first
              | exact ⟨rfl, hRel0⟩
              | (exfalso; omega)
              | (exfalso; simp (disch := omega) only [Int32.lt_iff_toInt_lt, Int32.le_iff_toInt_le, ← Int32.toInt_inj, Int32.reduceToInt, nI_toInt] at c1RephasDue c5RephasDue c10 m2MDisIn; done)
              | (exfalso; simp (disch := omega) only [Int32.lt_iff_toInt_lt, Int32.le_iff_toInt_le, ← Int32.toInt_inj, Int32.reduceToInt, nI_toInt] at c1RephasDue c5RephasDue c10 m2MDisIn; omega)
          · refine jr_iload rfl rfl ?_
            refine jr_iload rfl rfl ?_
            refine jr_icmp_gt rfl (fun m5MDisIn => ?_) (fun m5MDisIn => ?_)
            · refine jr_ic rfl ?_
              refine jr_zret rfl rfl rfl (Nat.zero_le _) (Nat.zero_le _) ?_
              refine jr_zret rfl rfl rfl (Nat.zero_le _) (Nat.zero_le _) ?_
              refine jr_if_eq rfl (fun _ => ?_) (fun z => absurd (by decide) z)
              refine jr_ic rfl ?_
              refine jr_iret rfl rfl (Nat.zero_le _) (Nat.zero_le _) ?_
              first
                | exact ⟨rfl, hRel0⟩
                | (exfalso; omega)
                | (exfalso; simp (disch := omega) only [Int32.lt_iff_toInt_lt, Int32.le_iff_toInt_le, ← Int32.toInt_inj, Int32.reduceToInt, nI_toInt] at c1RephasDue c5RephasDue c10 m2MDisIn m5MDisIn; done)
                | (exfalso; simp (disch := omega) only [Int32.lt_iff_toInt_lt, Int32.le_iff_toInt_le, ← Int32.toInt_inj, Int32.reduceToInt, nI_toInt] at c1RephasDue c5RephasDue c10 m2MDisIn m5MDisIn; omega)
            · refine jr_ic rfl ?_
              refine jr_goto rfl ?_
              refine jr_zret rfl rfl rfl (Nat.zero_le _) (Nat.zero_le _) ?_
              refine jr_zret rfl rfl rfl (Nat.zero_le _) (Nat.zero_le _) ?_
              refine jr_if_eq rfl (fun z => absurd z (by decide)) (fun _ => ?_)
              refine jr_aload rfl rfl ?_
              refine jr_iload rfl rfl ?_
              refine jr_cv1 (mc' := 0) (ms' := 0) rfl jm_MD_isForgiven_n jm_MD_isForgiven_f rfl rfl rfl rfl rfl rfl rfl (Nat.zero_le _) (Nat.zero_le _) ?_
              show jx_W (jm_MD_isForgiven, _, _, _, _, _, _) _ 0 0 0 [some _, some _] [] _
              refine jr_aload rfl rfl ?_
              refine jr_getR rfl rfl rfl rfl (Or.inl rfl) ?_
              refine jr_ic rfl ?_
              refine jr_iald (len := 337) rfl rfl (show _ = nI 36 from rfl) (by decide) ?_
              refine jr_iload rfl rfl ?_
              refine jr_ishr rfl ?_
              refine jr_ic rfl ?_
              refine jr_iand rfl ?_
              refine jr_ic rfl ?_
              refine jr_icmp_ne rfl (fun m9MDisForgiven => ?_) (fun m9MDisForgiven => ?_)
              · refine jr_ic rfl ?_
                refine jr_zret rfl rfl rfl (Nat.zero_le _) (Nat.zero_le _) ?_
                refine jr_if_ne rfl (fun z => absurd (by decide) z) (fun _ => ?_)
                refine jr_iload rfl rfl ?_
                refine jr_ic rfl ?_
                refine jr_ic rfl ?_
                refine jr_cs3 (mc' := 0) (ms' := 0) rfl jm_MD_isIn_n jm_MD_isIn_f rfl rfl rfl rfl rfl (Nat.zero_le _) (Nat.zero_le _) ?_
                show jx_W (jm_MD_isIn, _, _, _, _, _, _) _ 0 0 0 [some _, some _, some _] [] _
                refine jr_iload rfl rfl ?_
                refine jr_iload rfl rfl ?_
                refine jr_icmp_lt rfl (fun z => absurd z (by decide)) (fun _ => ?_)
                refine jr_iload rfl rfl ?_
                refine jr_iload rfl rfl ?_
                refine jr_icmp_gt rfl (fun z => absurd z (by decide)) (fun _ => ?_)
                refine jr_ic rfl ?_
                refine jr_goto rfl ?_
                refine jr_zret rfl rfl rfl (Nat.zero_le _) (Nat.zero_le _) ?_
                refine jr_if_ne rfl (fun _ => ?_) (fun z => absurd z (by decide))
                refine jr_ic rfl ?_
                refine jr_aload rfl rfl ?_
                refine jr_getI rfl rfl ?_
                refine jr_imul rfl ?_
                refine jr_iload rfl rfl ?_
                refine jr_iadd rfl ?_
                refine jr_ist3 rfl rfl ?_
                refine jr_aload rfl rfl ?_
                refine jr_getR rfl rfl rfl rfl (Or.inl rfl) ?_
                refine jr_ic rfl ?_
                refine jr_aload rfl rfl ?_
                refine jr_getI rfl rfl ?_
                refine jr_imul rfl ?_
                refine jr_aload rfl rfl ?_
                refine jr_getR rfl rfl rfl rfl (Or.inl rfl) ?_
                refine jr_iload rfl rfl ?_
                refine jr_iald (len := 24) rfl rfl (jn_add (jn_mul (show _ = nI 12 from rfl) hw.1) rfl) (by omega) ?_
                rw [show jh_I hm 77 0 (12 * b + i) = nI M from d5]
                refine jr_iadd rfl ?_
                refine jr_iald (len := 12) rfl rfl (jn_add (jn_mul (show _ = nI 6 from rfl) hw.1) rfl) (by omega) ?_
                rw [show jh_I hm 70 0 (6 * b + M) = nI f from hf]
                refine jr_ist4 rfl rfl ?_
                refine jr_aload rfl rfl ?_
                refine jr_getR rfl rfl rfl rfl (Or.inl rfl) ?_
                refine jr_ic rfl ?_
                refine jr_aload rfl rfl ?_
                refine jr_getI rfl rfl ?_
                refine jr_imul rfl ?_
                refine jr_aload rfl rfl ?_
                refine jr_getR rfl rfl rfl rfl (Or.inl rfl) ?_
                refine jr_iload rfl rfl ?_
                refine jr_iald (len := 24) rfl rfl (jn_add (jn_mul (show _ = nI 12 from rfl) hw.1) rfl) (by omega) ?_
                rw [show jh_I hm 77 0 (12 * b + i) = nI M from d5]
                refine jr_iadd rfl ?_
                refine jr_iald (len := 12) rfl rfl (jn_add (jn_mul (show _ = nI 6 from rfl) hw.1) rfl) (by omega) ?_
                rw [show jh_I hm 71 0 (6 * b + M) = nI t from ht]
                refine jr_ist5 rfl rfl ?_
                first
                  | (exfalso; omega)
                  | (exfalso; simp (disch := omega) only [Int32.lt_iff_toInt_lt, Int32.le_iff_toInt_le, ← Int32.toInt_inj, Int32.reduceToInt, nI_toInt] at c1RephasDue c5RephasDue c10 m2MDisIn m5MDisIn m9MDisForgiven; done)
                  | (exfalso; simp (disch := omega) only [Int32.lt_iff_toInt_lt, Int32.le_iff_toInt_le, ← Int32.toInt_inj, Int32.reduceToInt, nI_toInt] at c1RephasDue c5RephasDue c10 m2MDisIn m5MDisIn m9MDisForgiven; omega)
              · refine jr_ic rfl ?_
                refine jr_goto rfl ?_
                refine jr_zret rfl rfl rfl (Nat.zero_le _) (Nat.zero_le _) ?_
                refine jr_if_ne rfl (fun _ => ?_) (fun z => absurd z (by decide))
                refine jr_ic rfl ?_
                refine jr_iret rfl rfl (Nat.zero_le _) (Nat.zero_le _) ?_
                first
                  | exact ⟨rfl, hRel0⟩
                  | (exfalso; omega)
                  | (exfalso; simp (disch := omega) only [Int32.lt_iff_toInt_lt, Int32.le_iff_toInt_le, ← Int32.toInt_inj, Int32.reduceToInt, nI_toInt] at c1RephasDue c5RephasDue c10 m2MDisIn m5MDisIn m9MDisForgiven; done)
                  | (exfalso; simp (disch := omega) only [Int32.lt_iff_toInt_lt, Int32.le_iff_toInt_le, ← Int32.toInt_inj, Int32.reduceToInt, nI_toInt] at c1RephasDue c5RephasDue c10 m2MDisIn m5MDisIn m9MDisForgiven; omega)
  · show jx_W (jm_JV_span, d + 40, 0, 0, false, 0, _) _ 0 0 0 [some (jv_r 10 0), some (jv_i x), some (jv_i 0)] [] _
    refine jr_aload rfl rfl ?_
    refine jr_getM rfl rfl rfl rfl hto ?_
    refine jr_iload rfl rfl ?_
    refine jr_cv1 (mc' := 0) (ms' := 0) rfl jm_Rep_hasDue_n jm_Rep_hasDue_f rfl rfl rfl rfl rfl rfl rfl (Nat.zero_le _) (Nat.zero_le _) ?_
    show jx_W (jm_Rep_hasDue, _, _, _, _, _, _) _ 0 0 0 [some _, some _] [] _
    refine jr_iload rfl rfl ?_
    refine jr_if_lt rfl (fun c1RephasDue => ?_) (fun c1RephasDue => ?_)
    · refine jr_ic rfl ?_
      refine jr_zret rfl rfl rfl (Nat.zero_le _) (Nat.zero_le _) ?_
      refine jr_if_eq rfl (fun _ => ?_) (fun z => absurd (by decide) z)
      refine jr_ic rfl ?_
      refine jr_iret rfl rfl (Nat.zero_le _) (Nat.zero_le _) ?_
      show jx_W (jm_MD_span, d + 40, 0, 0, false, 1, _) _ 0 0 0 [some _, some _, some _, none, none, none, none, none] [] _
      refine jr_aload rfl rfl ?_
      refine jr_iload rfl rfl ?_
      refine jr_cv1 (mc' := 0) (ms' := 0) rfl jm_MD_isDue_n jm_MD_isDue_f rfl rfl rfl rfl rfl rfl rfl (Nat.zero_le _) (Nat.zero_le _) ?_
      show jx_W (jm_MD_isDue, _, _, _, _, _, _) _ 0 0 0 [some _, some _] [] _
      refine jr_iload rfl rfl ?_
      refine jr_ic rfl ?_
      refine jr_aload rfl rfl ?_
      refine jr_cv0 (mc' := 0) (ms' := 0) rfl jm_MD_dueMany_n jm_MD_dueMany_f rfl rfl rfl rfl rfl rfl rfl (Nat.zero_le _) (Nat.zero_le _) ?_
      show jx_W (jm_MD_dueMany, _, _, _, _, _, _) _ 0 0 0 [some _] [] _
      refine jr_aload rfl rfl ?_
      refine jr_getR rfl rfl rfl rfl (Or.inl rfl) ?_
      refine jr_aload rfl rfl ?_
      refine jr_getI rfl rfl ?_
      refine jr_iald (len := 2) rfl rfl hw.1 (by omega) ?_
      refine jr_iret rfl rfl (Nat.zero_le _) (Nat.zero_le _) ?_
      refine jr_ic rfl ?_
      refine jr_isub rfl ?_
      refine jr_cs3 (mc' := 0) (ms' := 0) rfl jm_MD_isIn_n jm_MD_isIn_f rfl rfl rfl rfl rfl (Nat.zero_le _) (Nat.zero_le _) ?_
      show jx_W (jm_MD_isIn, _, _, _, _, _, _) _ 0 0 0 [some _, some _, some _] [] _
      refine jr_iload rfl rfl ?_
      refine jr_iload rfl rfl ?_
      refine jr_icmp_lt rfl (fun m2MDisIn => ?_) (fun m2MDisIn => ?_)
      · refine jr_ic rfl ?_
        refine jr_zret rfl rfl rfl (Nat.zero_le _) (Nat.zero_le _) ?_
        refine jr_zret rfl rfl rfl (Nat.zero_le _) (Nat.zero_le _) ?_
        refine jr_if_eq rfl (fun _ => ?_) (fun z => absurd (by decide) z)
        refine jr_ic rfl ?_
        refine jr_iret rfl rfl (Nat.zero_le _) (Nat.zero_le _) ?_
        first
          | exact ⟨rfl, hRel0⟩
          | (exfalso; omega)
          | (exfalso; simp (disch := omega) only [Int32.lt_iff_toInt_lt, Int32.le_iff_toInt_le, ← Int32.toInt_inj, Int32.reduceToInt, nI_toInt] at c1RephasDue m2MDisIn; done)
          | (exfalso; simp (disch := omega) only [Int32.lt_iff_toInt_lt, Int32.le_iff_toInt_le, ← Int32.toInt_inj, Int32.reduceToInt, nI_toInt] at c1RephasDue m2MDisIn; omega)
      · refine jr_iload rfl rfl ?_
        refine jr_iload rfl rfl ?_
        refine jr_icmp_gt rfl (fun m5MDisIn => ?_) (fun m5MDisIn => ?_)
        · refine jr_ic rfl ?_
          refine jr_zret rfl rfl rfl (Nat.zero_le _) (Nat.zero_le _) ?_
          refine jr_zret rfl rfl rfl (Nat.zero_le _) (Nat.zero_le _) ?_
          refine jr_if_eq rfl (fun _ => ?_) (fun z => absurd (by decide) z)
          refine jr_ic rfl ?_
          refine jr_iret rfl rfl (Nat.zero_le _) (Nat.zero_le _) ?_
          first
            | exact ⟨rfl, hRel0⟩
            | (exfalso; omega)
            | (exfalso; simp (disch := omega) only [Int32.lt_iff_toInt_lt, Int32.le_iff_toInt_le, ← Int32.toInt_inj, Int32.reduceToInt, nI_toInt] at c1RephasDue m2MDisIn m5MDisIn; done)
            | (exfalso; simp (disch := omega) only [Int32.lt_iff_toInt_lt, Int32.le_iff_toInt_le, ← Int32.toInt_inj, Int32.reduceToInt, nI_toInt] at c1RephasDue m2MDisIn m5MDisIn; omega)
        · refine jr_ic rfl ?_
          refine jr_goto rfl ?_
          refine jr_zret rfl rfl rfl (Nat.zero_le _) (Nat.zero_le _) ?_
          refine jr_zret rfl rfl rfl (Nat.zero_le _) (Nat.zero_le _) ?_
          refine jr_if_eq rfl (fun z => absurd z (by decide)) (fun _ => ?_)
          refine jr_aload rfl rfl ?_
          refine jr_iload rfl rfl ?_
          refine jr_cv1 (mc' := 0) (ms' := 0) rfl jm_MD_isForgiven_n jm_MD_isForgiven_f rfl rfl rfl rfl rfl rfl rfl (Nat.zero_le _) (Nat.zero_le _) ?_
          show jx_W (jm_MD_isForgiven, _, _, _, _, _, _) _ 0 0 0 [some _, some _] [] _
          refine jr_aload rfl rfl ?_
          refine jr_getR rfl rfl rfl rfl (Or.inl rfl) ?_
          refine jr_ic rfl ?_
          refine jr_iald (len := 337) rfl rfl (show _ = nI 36 from rfl) (by decide) ?_
          refine jr_iload rfl rfl ?_
          refine jr_ishr rfl ?_
          refine jr_ic rfl ?_
          refine jr_iand rfl ?_
          refine jr_ic rfl ?_
          refine jr_icmp_ne rfl (fun m9MDisForgiven => ?_) (fun m9MDisForgiven => ?_)
          · refine jr_ic rfl ?_
            refine jr_zret rfl rfl rfl (Nat.zero_le _) (Nat.zero_le _) ?_
            refine jr_if_ne rfl (fun z => absurd (by decide) z) (fun _ => ?_)
            refine jr_iload rfl rfl ?_
            refine jr_ic rfl ?_
            refine jr_ic rfl ?_
            refine jr_cs3 (mc' := 0) (ms' := 0) rfl jm_MD_isIn_n jm_MD_isIn_f rfl rfl rfl rfl rfl (Nat.zero_le _) (Nat.zero_le _) ?_
            show jx_W (jm_MD_isIn, _, _, _, _, _, _) _ 0 0 0 [some _, some _, some _] [] _
            refine jr_iload rfl rfl ?_
            refine jr_iload rfl rfl ?_
            refine jr_icmp_lt rfl (fun z => absurd z (by decide)) (fun _ => ?_)
            refine jr_iload rfl rfl ?_
            refine jr_iload rfl rfl ?_
            refine jr_icmp_gt rfl (fun z => absurd z (by decide)) (fun _ => ?_)
            refine jr_ic rfl ?_
            refine jr_goto rfl ?_
            refine jr_zret rfl rfl rfl (Nat.zero_le _) (Nat.zero_le _) ?_
            refine jr_if_ne rfl (fun _ => ?_) (fun z => absurd z (by decide))
            first
              | (exfalso; omega)
              | (exfalso; simp (disch := omega) only [Int32.lt_iff_toInt_lt, Int32.le_iff_toInt_le, ← Int32.toInt_inj, Int32.reduceToInt, nI_toInt] at c1RephasDue m2MDisIn m5MDisIn m9MDisForgiven; done)
              | (exfalso; simp (disch := omega) only [Int32.lt_iff_toInt_lt, Int32.le_iff_toInt_le, ← Int32.toInt_inj, Int32.reduceToInt, nI_toInt] at c1RephasDue m2MDisIn m5MDisIn m9MDisForgiven; omega)
          · refine jr_ic rfl ?_
            refine jr_goto rfl ?_
            refine jr_zret rfl rfl rfl (Nat.zero_le _) (Nat.zero_le _) ?_
            refine jr_if_ne rfl (fun _ => ?_) (fun z => absurd z (by decide))
            refine jr_ic rfl ?_
            refine jr_iret rfl rfl (Nat.zero_le _) (Nat.zero_le _) ?_
            first
              | exact ⟨rfl, hRel0⟩
              | (exfalso; omega)
              | (exfalso; simp (disch := omega) only [Int32.lt_iff_toInt_lt, Int32.le_iff_toInt_le, ← Int32.toInt_inj, Int32.reduceToInt, nI_toInt] at c1RephasDue m2MDisIn m5MDisIn m9MDisForgiven; done)
              | (exfalso; simp (disch := omega) only [Int32.lt_iff_toInt_lt, Int32.le_iff_toInt_le, ← Int32.toInt_inj, Int32.reduceToInt, nI_toInt] at c1RephasDue m2MDisIn m5MDisIn m9MDisForgiven; omega)
    · refine jr_iload rfl rfl ?_
      refine jr_aload rfl rfl ?_
      refine jr_getI rfl rfl ?_
      refine jr_icmp_ge rfl (fun c5RephasDue => ?_) (fun c5RephasDue => ?_)
      · refine jr_ic rfl ?_
        refine jr_zret rfl rfl rfl (Nat.zero_le _) (Nat.zero_le _) ?_
        refine jr_if_eq rfl (fun _ => ?_) (fun z => absurd (by decide) z)
        refine jr_ic rfl ?_
        refine jr_iret rfl rfl (Nat.zero_le _) (Nat.zero_le _) ?_
        show jx_W (jm_MD_span, d + 40, 0, 0, false, 1, _) _ 0 0 0 [some _, some _, some _, none, none, none, none, none] [] _
        refine jr_aload rfl rfl ?_
        refine jr_iload rfl rfl ?_
        refine jr_cv1 (mc' := 0) (ms' := 0) rfl jm_MD_isDue_n jm_MD_isDue_f rfl rfl rfl rfl rfl rfl rfl (Nat.zero_le _) (Nat.zero_le _) ?_
        show jx_W (jm_MD_isDue, _, _, _, _, _, _) _ 0 0 0 [some _, some _] [] _
        refine jr_iload rfl rfl ?_
        refine jr_ic rfl ?_
        refine jr_aload rfl rfl ?_
        refine jr_cv0 (mc' := 0) (ms' := 0) rfl jm_MD_dueMany_n jm_MD_dueMany_f rfl rfl rfl rfl rfl rfl rfl (Nat.zero_le _) (Nat.zero_le _) ?_
        show jx_W (jm_MD_dueMany, _, _, _, _, _, _) _ 0 0 0 [some _] [] _
        refine jr_aload rfl rfl ?_
        refine jr_getR rfl rfl rfl rfl (Or.inl rfl) ?_
        refine jr_aload rfl rfl ?_
        refine jr_getI rfl rfl ?_
        refine jr_iald (len := 2) rfl rfl hw.1 (by omega) ?_
        refine jr_iret rfl rfl (Nat.zero_le _) (Nat.zero_le _) ?_
        refine jr_ic rfl ?_
        refine jr_isub rfl ?_
        refine jr_cs3 (mc' := 0) (ms' := 0) rfl jm_MD_isIn_n jm_MD_isIn_f rfl rfl rfl rfl rfl (Nat.zero_le _) (Nat.zero_le _) ?_
        show jx_W (jm_MD_isIn, _, _, _, _, _, _) _ 0 0 0 [some _, some _, some _] [] _
        refine jr_iload rfl rfl ?_
        refine jr_iload rfl rfl ?_
        refine jr_icmp_lt rfl (fun m2MDisIn => ?_) (fun m2MDisIn => ?_)
        · refine jr_ic rfl ?_
          refine jr_zret rfl rfl rfl (Nat.zero_le _) (Nat.zero_le _) ?_
          refine jr_zret rfl rfl rfl (Nat.zero_le _) (Nat.zero_le _) ?_
          refine jr_if_eq rfl (fun _ => ?_) (fun z => absurd (by decide) z)
          refine jr_ic rfl ?_
          refine jr_iret rfl rfl (Nat.zero_le _) (Nat.zero_le _) ?_
          first
            | exact ⟨rfl, hRel0⟩
            | (exfalso; omega)
            | (exfalso; simp (disch := omega) only [Int32.lt_iff_toInt_lt, Int32.le_iff_toInt_le, ← Int32.toInt_inj, Int32.reduceToInt, nI_toInt] at c1RephasDue c5RephasDue m2MDisIn; done)
            | (exfalso; simp (disch := omega) only [Int32.lt_iff_toInt_lt, Int32.le_iff_toInt_le, ← Int32.toInt_inj, Int32.reduceToInt, nI_toInt] at c1RephasDue c5RephasDue m2MDisIn; omega)
        · refine jr_iload rfl rfl ?_
          refine jr_iload rfl rfl ?_
          refine jr_icmp_gt rfl (fun m5MDisIn => ?_) (fun m5MDisIn => ?_)
          · refine jr_ic rfl ?_
            refine jr_zret rfl rfl rfl (Nat.zero_le _) (Nat.zero_le _) ?_
            refine jr_zret rfl rfl rfl (Nat.zero_le _) (Nat.zero_le _) ?_
            refine jr_if_eq rfl (fun _ => ?_) (fun z => absurd (by decide) z)
            refine jr_ic rfl ?_
            refine jr_iret rfl rfl (Nat.zero_le _) (Nat.zero_le _) ?_
            first
              | exact ⟨rfl, hRel0⟩
              | (exfalso; omega)
              | (exfalso; simp (disch := omega) only [Int32.lt_iff_toInt_lt, Int32.le_iff_toInt_le, ← Int32.toInt_inj, Int32.reduceToInt, nI_toInt] at c1RephasDue c5RephasDue m2MDisIn m5MDisIn; done)
              | (exfalso; simp (disch := omega) only [Int32.lt_iff_toInt_lt, Int32.le_iff_toInt_le, ← Int32.toInt_inj, Int32.reduceToInt, nI_toInt] at c1RephasDue c5RephasDue m2MDisIn m5MDisIn; omega)
          · refine jr_ic rfl ?_
            refine jr_goto rfl ?_
            refine jr_zret rfl rfl rfl (Nat.zero_le _) (Nat.zero_le _) ?_
            refine jr_zret rfl rfl rfl (Nat.zero_le _) (Nat.zero_le _) ?_
            refine jr_if_eq rfl (fun z => absurd z (by decide)) (fun _ => ?_)
            refine jr_aload rfl rfl ?_
            refine jr_iload rfl rfl ?_
            refine jr_cv1 (mc' := 0) (ms' := 0) rfl jm_MD_isForgiven_n jm_MD_isForgiven_f rfl rfl rfl rfl rfl rfl rfl (Nat.zero_le _) (Nat.zero_le _) ?_
            show jx_W (jm_MD_isForgiven, _, _, _, _, _, _) _ 0 0 0 [some _, some _] [] _
            refine jr_aload rfl rfl ?_
            refine jr_getR rfl rfl rfl rfl (Or.inl rfl) ?_
            refine jr_ic rfl ?_
            refine jr_iald (len := 337) rfl rfl (show _ = nI 36 from rfl) (by decide) ?_
            refine jr_iload rfl rfl ?_
            refine jr_ishr rfl ?_
            refine jr_ic rfl ?_
            refine jr_iand rfl ?_
            refine jr_ic rfl ?_
            refine jr_icmp_ne rfl (fun m9MDisForgiven => ?_) (fun m9MDisForgiven => ?_)
            · refine jr_ic rfl ?_
              refine jr_zret rfl rfl rfl (Nat.zero_le _) (Nat.zero_le _) ?_
              refine jr_if_ne rfl (fun z => absurd (by decide) z) (fun _ => ?_)
              refine jr_iload rfl rfl ?_
              refine jr_ic rfl ?_
              refine jr_ic rfl ?_
              refine jr_cs3 (mc' := 0) (ms' := 0) rfl jm_MD_isIn_n jm_MD_isIn_f rfl rfl rfl rfl rfl (Nat.zero_le _) (Nat.zero_le _) ?_
              show jx_W (jm_MD_isIn, _, _, _, _, _, _) _ 0 0 0 [some _, some _, some _] [] _
              refine jr_iload rfl rfl ?_
              refine jr_iload rfl rfl ?_
              refine jr_icmp_lt rfl (fun z => absurd z (by decide)) (fun _ => ?_)
              refine jr_iload rfl rfl ?_
              refine jr_iload rfl rfl ?_
              refine jr_icmp_gt rfl (fun z => absurd z (by decide)) (fun _ => ?_)
              refine jr_ic rfl ?_
              refine jr_goto rfl ?_
              refine jr_zret rfl rfl rfl (Nat.zero_le _) (Nat.zero_le _) ?_
              refine jr_if_ne rfl (fun _ => ?_) (fun z => absurd z (by decide))
              first
                | (exfalso; omega)
                | (exfalso; simp (disch := omega) only [Int32.lt_iff_toInt_lt, Int32.le_iff_toInt_le, ← Int32.toInt_inj, Int32.reduceToInt, nI_toInt] at c1RephasDue c5RephasDue m2MDisIn m5MDisIn m9MDisForgiven; done)
                | (exfalso; simp (disch := omega) only [Int32.lt_iff_toInt_lt, Int32.le_iff_toInt_le, ← Int32.toInt_inj, Int32.reduceToInt, nI_toInt] at c1RephasDue c5RephasDue m2MDisIn m5MDisIn m9MDisForgiven; omega)
            · refine jr_ic rfl ?_
              refine jr_goto rfl ?_
              refine jr_zret rfl rfl rfl (Nat.zero_le _) (Nat.zero_le _) ?_
              refine jr_if_ne rfl (fun _ => ?_) (fun z => absurd z (by decide))
              refine jr_ic rfl ?_
              refine jr_iret rfl rfl (Nat.zero_le _) (Nat.zero_le _) ?_
              first
                | exact ⟨rfl, hRel0⟩
                | (exfalso; omega)
                | (exfalso; simp (disch := omega) only [Int32.lt_iff_toInt_lt, Int32.le_iff_toInt_le, ← Int32.toInt_inj, Int32.reduceToInt, nI_toInt] at c1RephasDue c5RephasDue m2MDisIn m5MDisIn m9MDisForgiven; done)
                | (exfalso; simp (disch := omega) only [Int32.lt_iff_toInt_lt, Int32.le_iff_toInt_le, ← Int32.toInt_inj, Int32.reduceToInt, nI_toInt] at c1RephasDue c5RephasDue m2MDisIn m5MDisIn m9MDisForgiven; omega)
      · refine jr_ic rfl ?_
        refine jr_goto rfl ?_
        refine jr_zret rfl rfl rfl (Nat.zero_le _) (Nat.zero_le _) ?_
        refine jr_if_eq rfl (fun z => absurd z (by decide)) (fun _ => ?_)
        refine jr_aload rfl rfl ?_
        refine jr_getR rfl rfl rfl rfl (Or.inl rfl) ?_
        refine jr_getR rfl rfl rfl rfl (Or.inl rfl) ?_
        refine jr_iload rfl rfl ?_
        first
          | (exfalso; omega)
          | (exfalso; simp (disch := omega) only [Int32.lt_iff_toInt_lt, Int32.le_iff_toInt_le, ← Int32.toInt_inj, Int32.reduceToInt, nI_toInt] at c1RephasDue c5RephasDue; done)
          | (exfalso; simp (disch := omega) only [Int32.lt_iff_toInt_lt, Int32.le_iff_toInt_le, ← Int32.toInt_inj, Int32.reduceToInt, nI_toInt] at c1RephasDue c5RephasDue; omega)

set_option maxHeartbeats 800000 in
set_option maxRecDepth 100000 in
theorem pd_span_1 {d : Nat} {hc hm : jx_H} {x : Int32} (hRel : jz_Rel hc hm) : jx_Ev jm_JV_span (d + 40) 0 0 false 0 [jv_r 10 0, jv_i x, jv_i 1] hc (fun r hc' => jx_Ev jm_MD_span (d + 40) 0 0 false 1 [jv_r 11 0, jv_i x, jv_i 1] hm (fun r' hm' => r = r' ∧ jz_Rel hc' hm')) := by
  have hRel0 := hRel
  obtain ⟨b, r, ⟨hw, hG, hr2, hto, hsp, hR, hA, hL⟩, hTa, hFa, hLy, hTi, hLe, hBo, hAc, hWo⟩ := hRel
  have hb2 := hw.2.1
  have hnd := hw.2.2.1.2.2.1
  have hnd5 := hnd.2
  have kd1 : (jh_I hc 7 r 5).toInt = (jz_nd hm b : Int) := by rw [hR.2.2.1]; exact (congrArg Int32.toInt hnd.1).trans (nI_toInt (by omega))
  have kd2 : (jh_I hm 68 0 b).toInt = (jz_nd hm b : Int) := (congrArg Int32.toInt hnd.1).trans (nI_toInt (by omega))
  have kd3 : (jh_I hm 68 0 b - 1).toInt = (jz_nd hm b : Int) - 1 := by rw [Int32.toInt_sub, kd2, show (1 : Int32).toInt = 1 from rfl]; exact jn_sm (by omega) (by omega)
  rcases nI_dec x (jz_nd hm b) (by omega) with ⟨i, rfl, hi, hi2⟩ | hi
  · have hnm := hw.2.2.1.1
    have hi12 : i < 12 := by omega
    have e3 := (hA.2.2.2.2 i (by omega)).2.2
    have e4 := jy_s01 (m := jh_I hm 98 0 36) (l := i) (by omega)
    obtain ⟨px, py, z, u, M, d1, d2, d3, d4, d5, d6, d7, d8, d9, d10, d11, d12, d13, d14⟩ := hw.2.2.1.2.2.2.2.1 i hi
    obtain ⟨f, t, hf, ht, hft, ht31⟩ := hw.2.2.1.2.2.2.1 M d13
    have hmo : ¬ jC hm b 0 0 = 0 := fun z0 => by
      have h1 := jz_gi (show jC hm b 0 0 = nI (jz_nm hm b) from hnm.1) (by omega)
      rw [z0] at h1
      have h0 : (0 : Int32).toInt = 0 := rfl
      omega
    obtain ⟨m0, hm0, hml⟩ := jz_mo hw hmo
    have hd := hR.2.2.2.2.2.1 i hi
    obtain ⟨lt, hpd⟩ : ∃ lt : Bool, ∀ l, l ≤ 40 → jw_paid (jC hm b) i (nI l) = nI (jw_pn lt u l) := by
      refine ⟨decide (¬ jC hm b 11 i = 0), fun l hl => ?_⟩
      unfold jw_paid jw_pn
      rw [d4]
      by_cases e : nI l < nI u
      · rw [if_pos e, if_pos (jn_lt e (by omega) (by omega))]
        by_cases g : jC hm b 11 i = 0
        · rw [if_pos g, decide_eq_false (show ¬ ¬ jC hm b 11 i = 0 from fun z => z g)]; rfl
        · rw [if_neg g, decide_eq_true g]; rfl
      · rw [if_neg e, if_neg (by have := jn_nlt e (by omega) (by omega); omega)]
    have hpt := @jw_pn_b lt u t d12 (by omega)
    have hpf := @jw_pn_b lt u f d12 (by omega)
    show jx_W (jm_JV_span, d + 40, 0, 0, false, 0, _) _ 0 0 0 [some (jv_r 10 0), some (jv_i (nI i)), some (jv_i 1)] [] _
    refine jr_aload rfl rfl ?_
    refine jr_getM rfl rfl rfl rfl hto ?_
    refine jr_iload rfl rfl ?_
    refine jr_cv1 (mc' := 0) (ms' := 0) rfl jm_Rep_hasDue_n jm_Rep_hasDue_f rfl rfl rfl rfl rfl rfl rfl (Nat.zero_le _) (Nat.zero_le _) ?_
    show jx_W (jm_Rep_hasDue, _, _, _, _, _, _) _ 0 0 0 [some _, some _] [] _
    refine jr_iload rfl rfl ?_
    refine jr_if_lt rfl (fun c1RephasDue => ?_) (fun c1RephasDue => ?_)
    · refine jr_ic rfl ?_
      refine jr_zret rfl rfl rfl (Nat.zero_le _) (Nat.zero_le _) ?_
      refine jr_if_eq rfl (fun _ => ?_) (fun z => absurd (by decide) z)
      refine jr_ic rfl ?_
      refine jr_iret rfl rfl (Nat.zero_le _) (Nat.zero_le _) ?_
      show jx_W (jm_MD_span, d + 40, 0, 0, false, 1, _) _ 0 0 0 [some _, some _, some _, none, none, none, none, none] [] _
      refine jr_aload rfl rfl ?_
      refine jr_iload rfl rfl ?_
      refine jr_cv1 (mc' := 0) (ms' := 0) rfl jm_MD_isDue_n jm_MD_isDue_f rfl rfl rfl rfl rfl rfl rfl (Nat.zero_le _) (Nat.zero_le _) ?_
      show jx_W (jm_MD_isDue, _, _, _, _, _, _) _ 0 0 0 [some _, some _] [] _
      refine jr_iload rfl rfl ?_
      refine jr_ic rfl ?_
      refine jr_aload rfl rfl ?_
      refine jr_cv0 (mc' := 0) (ms' := 0) rfl jm_MD_dueMany_n jm_MD_dueMany_f rfl rfl rfl rfl rfl rfl rfl (Nat.zero_le _) (Nat.zero_le _) ?_
      show jx_W (jm_MD_dueMany, _, _, _, _, _, _) _ 0 0 0 [some _] [] _
      refine jr_aload rfl rfl ?_
      refine jr_getR rfl rfl rfl rfl (Or.inl rfl) ?_
      refine jr_aload rfl rfl ?_
      refine jr_getI rfl rfl ?_
      refine jr_iald (len := 2) rfl rfl hw.1 (by omega) ?_
      refine jr_iret rfl rfl (Nat.zero_le _) (Nat.zero_le _) ?_
      refine jr_ic rfl ?_
      refine jr_isub rfl ?_
      refine jr_cs3 (mc' := 0) (ms' := 0) rfl jm_MD_isIn_n jm_MD_isIn_f rfl rfl rfl rfl rfl (Nat.zero_le _) (Nat.zero_le _) ?_
      show jx_W (jm_MD_isIn, _, _, _, _, _, _) _ 0 0 0 [some _, some _, some _] [] _
      refine jr_iload rfl rfl ?_
      refine jr_iload rfl rfl ?_
      refine jr_icmp_lt rfl (fun m2MDisIn => ?_) (fun m2MDisIn => ?_)
      · refine jr_ic rfl ?_
        refine jr_zret rfl rfl rfl (Nat.zero_le _) (Nat.zero_le _) ?_
        refine jr_zret rfl rfl rfl (Nat.zero_le _) (Nat.zero_le _) ?_
        refine jr_if_eq rfl (fun _ => ?_) (fun z => absurd (by decide) z)
        refine jr_ic rfl ?_
        refine jr_iret rfl rfl (Nat.zero_le _) (Nat.zero_le _) ?_
        first
          | exact ⟨rfl, hRel0⟩
          | (exfalso; omega)
          | (exfalso; simp (disch := omega) only [Int32.lt_iff_toInt_lt, Int32.le_iff_toInt_le, ← Int32.toInt_inj, Int32.reduceToInt, nI_toInt] at c1RephasDue m2MDisIn; done)
          | (exfalso; simp (disch := omega) only [Int32.lt_iff_toInt_lt, Int32.le_iff_toInt_le, ← Int32.toInt_inj, Int32.reduceToInt, nI_toInt] at c1RephasDue m2MDisIn; omega)
      · refine jr_iload rfl rfl ?_
        refine jr_iload rfl rfl ?_
        refine jr_icmp_gt rfl (fun m5MDisIn => ?_) (fun m5MDisIn => ?_)
        · refine jr_ic rfl ?_
          refine jr_zret rfl rfl rfl (Nat.zero_le _) (Nat.zero_le _) ?_
          refine jr_zret rfl rfl rfl (Nat.zero_le _) (Nat.zero_le _) ?_
          refine jr_if_eq rfl (fun _ => ?_) (fun z => absurd (by decide) z)
          refine jr_ic rfl ?_
          refine jr_iret rfl rfl (Nat.zero_le _) (Nat.zero_le _) ?_
          first
            | exact ⟨rfl, hRel0⟩
            | (exfalso; omega)
            | (exfalso; simp (disch := omega) only [Int32.lt_iff_toInt_lt, Int32.le_iff_toInt_le, ← Int32.toInt_inj, Int32.reduceToInt, nI_toInt] at c1RephasDue m2MDisIn m5MDisIn; done)
            | (exfalso; simp (disch := omega) only [Int32.lt_iff_toInt_lt, Int32.le_iff_toInt_le, ← Int32.toInt_inj, Int32.reduceToInt, nI_toInt] at c1RephasDue m2MDisIn m5MDisIn; omega)
        · refine jr_ic rfl ?_
          refine jr_goto rfl ?_
          refine jr_zret rfl rfl rfl (Nat.zero_le _) (Nat.zero_le _) ?_
          refine jr_zret rfl rfl rfl (Nat.zero_le _) (Nat.zero_le _) ?_
          refine jr_if_eq rfl (fun z => absurd z (by decide)) (fun _ => ?_)
          refine jr_aload rfl rfl ?_
          refine jr_iload rfl rfl ?_
          refine jr_cv1 (mc' := 0) (ms' := 0) rfl jm_MD_isForgiven_n jm_MD_isForgiven_f rfl rfl rfl rfl rfl rfl rfl (Nat.zero_le _) (Nat.zero_le _) ?_
          show jx_W (jm_MD_isForgiven, _, _, _, _, _, _) _ 0 0 0 [some _, some _] [] _
          refine jr_aload rfl rfl ?_
          refine jr_getR rfl rfl rfl rfl (Or.inl rfl) ?_
          refine jr_ic rfl ?_
          refine jr_iald (len := 337) rfl rfl (show _ = nI 36 from rfl) (by decide) ?_
          refine jr_iload rfl rfl ?_
          refine jr_ishr rfl ?_
          refine jr_ic rfl ?_
          refine jr_iand rfl ?_
          refine jr_ic rfl ?_
          refine jr_icmp_ne rfl (fun m9MDisForgiven => ?_) (fun m9MDisForgiven => ?_)
          · refine jr_ic rfl ?_
            refine jr_zret rfl rfl rfl (Nat.zero_le _) (Nat.zero_le _) ?_
            refine jr_if_ne rfl (fun z => absurd (by decide) z) (fun _ => ?_)
            refine jr_iload rfl rfl ?_
            refine jr_ic rfl ?_
            refine jr_ic rfl ?_
            refine jr_cs3 (mc' := 0) (ms' := 0) rfl jm_MD_isIn_n jm_MD_isIn_f rfl rfl rfl rfl rfl (Nat.zero_le _) (Nat.zero_le _) ?_
            show jx_W (jm_MD_isIn, _, _, _, _, _, _) _ 0 0 0 [some _, some _, some _] [] _
            refine jr_iload rfl rfl ?_
            refine jr_iload rfl rfl ?_
            refine jr_icmp_lt rfl (fun z => absurd z (by decide)) (fun _ => ?_)
            refine jr_iload rfl rfl ?_
            refine jr_iload rfl rfl ?_
            refine jr_icmp_gt rfl (fun z => absurd z (by decide)) (fun _ => ?_)
            refine jr_ic rfl ?_
            refine jr_goto rfl ?_
            refine jr_zret rfl rfl rfl (Nat.zero_le _) (Nat.zero_le _) ?_
            refine jr_if_ne rfl (fun _ => ?_) (fun z => absurd z (by decide))
            refine jr_ic rfl ?_
            refine jr_aload rfl rfl ?_
            refine jr_getI rfl rfl ?_
            refine jr_imul rfl ?_
            refine jr_iload rfl rfl ?_
            refine jr_iadd rfl ?_
            refine jr_ist3 rfl rfl ?_
            refine jr_aload rfl rfl ?_
            refine jr_getR rfl rfl rfl rfl (Or.inl rfl) ?_
            refine jr_ic rfl ?_
            refine jr_aload rfl rfl ?_
            refine jr_getI rfl rfl ?_
            refine jr_imul rfl ?_
            refine jr_aload rfl rfl ?_
            refine jr_getR rfl rfl rfl rfl (Or.inl rfl) ?_
            refine jr_iload rfl rfl ?_
            refine jr_iald (len := 24) rfl rfl (jn_add (jn_mul (show _ = nI 12 from rfl) hw.1) rfl) (by omega) ?_
            rw [show jh_I hm 77 0 (12 * b + i) = nI M from d5]
            refine jr_iadd rfl ?_
            refine jr_iald (len := 12) rfl rfl (jn_add (jn_mul (show _ = nI 6 from rfl) hw.1) rfl) (by omega) ?_
            rw [show jh_I hm 70 0 (6 * b + M) = nI f from hf]
            refine jr_ist4 rfl rfl ?_
            refine jr_aload rfl rfl ?_
            refine jr_getR rfl rfl rfl rfl (Or.inl rfl) ?_
            refine jr_ic rfl ?_
            refine jr_aload rfl rfl ?_
            refine jr_getI rfl rfl ?_
            refine jr_imul rfl ?_
            refine jr_aload rfl rfl ?_
            refine jr_getR rfl rfl rfl rfl (Or.inl rfl) ?_
            refine jr_iload rfl rfl ?_
            refine jr_iald (len := 24) rfl rfl (jn_add (jn_mul (show _ = nI 12 from rfl) hw.1) rfl) (by omega) ?_
            rw [show jh_I hm 77 0 (12 * b + i) = nI M from d5]
            refine jr_iadd rfl ?_
            refine jr_iald (len := 12) rfl rfl (jn_add (jn_mul (show _ = nI 6 from rfl) hw.1) rfl) (by omega) ?_
            rw [show jh_I hm 71 0 (6 * b + M) = nI t from ht]
            refine jr_ist5 rfl rfl ?_
            first
              | (exfalso; omega)
              | (exfalso; simp (disch := omega) only [Int32.lt_iff_toInt_lt, Int32.le_iff_toInt_le, ← Int32.toInt_inj, Int32.reduceToInt, nI_toInt] at c1RephasDue m2MDisIn m5MDisIn m9MDisForgiven; done)
              | (exfalso; simp (disch := omega) only [Int32.lt_iff_toInt_lt, Int32.le_iff_toInt_le, ← Int32.toInt_inj, Int32.reduceToInt, nI_toInt] at c1RephasDue m2MDisIn m5MDisIn m9MDisForgiven; omega)
          · refine jr_ic rfl ?_
            refine jr_goto rfl ?_
            refine jr_zret rfl rfl rfl (Nat.zero_le _) (Nat.zero_le _) ?_
            refine jr_if_ne rfl (fun _ => ?_) (fun z => absurd z (by decide))
            refine jr_ic rfl ?_
            refine jr_iret rfl rfl (Nat.zero_le _) (Nat.zero_le _) ?_
            first
              | exact ⟨rfl, hRel0⟩
              | (exfalso; omega)
              | (exfalso; simp (disch := omega) only [Int32.lt_iff_toInt_lt, Int32.le_iff_toInt_le, ← Int32.toInt_inj, Int32.reduceToInt, nI_toInt] at c1RephasDue m2MDisIn m5MDisIn m9MDisForgiven; done)
              | (exfalso; simp (disch := omega) only [Int32.lt_iff_toInt_lt, Int32.le_iff_toInt_le, ← Int32.toInt_inj, Int32.reduceToInt, nI_toInt] at c1RephasDue m2MDisIn m5MDisIn m9MDisForgiven; omega)
    · refine jr_iload rfl rfl ?_
      refine jr_aload rfl rfl ?_
      refine jr_getI rfl rfl ?_
      refine jr_icmp_ge rfl (fun c5RephasDue => ?_) (fun c5RephasDue => ?_)
      · refine jr_ic rfl ?_
        refine jr_zret rfl rfl rfl (Nat.zero_le _) (Nat.zero_le _) ?_
        refine jr_if_eq rfl (fun _ => ?_) (fun z => absurd (by decide) z)
        refine jr_ic rfl ?_
        refine jr_iret rfl rfl (Nat.zero_le _) (Nat.zero_le _) ?_
        show jx_W (jm_MD_span, d + 40, 0, 0, false, 1, _) _ 0 0 0 [some _, some _, some _, none, none, none, none, none] [] _
        refine jr_aload rfl rfl ?_
        refine jr_iload rfl rfl ?_
        refine jr_cv1 (mc' := 0) (ms' := 0) rfl jm_MD_isDue_n jm_MD_isDue_f rfl rfl rfl rfl rfl rfl rfl (Nat.zero_le _) (Nat.zero_le _) ?_
        show jx_W (jm_MD_isDue, _, _, _, _, _, _) _ 0 0 0 [some _, some _] [] _
        refine jr_iload rfl rfl ?_
        refine jr_ic rfl ?_
        refine jr_aload rfl rfl ?_
        refine jr_cv0 (mc' := 0) (ms' := 0) rfl jm_MD_dueMany_n jm_MD_dueMany_f rfl rfl rfl rfl rfl rfl rfl (Nat.zero_le _) (Nat.zero_le _) ?_
        show jx_W (jm_MD_dueMany, _, _, _, _, _, _) _ 0 0 0 [some _] [] _
        refine jr_aload rfl rfl ?_
        refine jr_getR rfl rfl rfl rfl (Or.inl rfl) ?_
        refine jr_aload rfl rfl ?_
        refine jr_getI rfl rfl ?_
        refine jr_iald (len := 2) rfl rfl hw.1 (by omega) ?_
        refine jr_iret rfl rfl (Nat.zero_le _) (Nat.zero_le _) ?_
        refine jr_ic rfl ?_
        refine jr_isub rfl ?_
        refine jr_cs3 (mc' := 0) (ms' := 0) rfl jm_MD_isIn_n jm_MD_isIn_f rfl rfl rfl rfl rfl (Nat.zero_le _) (Nat.zero_le _) ?_
        show jx_W (jm_MD_isIn, _, _, _, _, _, _) _ 0 0 0 [some _, some _, some _] [] _
        refine jr_iload rfl rfl ?_
        refine jr_iload rfl rfl ?_
        refine jr_icmp_lt rfl (fun m2MDisIn => ?_) (fun m2MDisIn => ?_)
        · refine jr_ic rfl ?_
          refine jr_zret rfl rfl rfl (Nat.zero_le _) (Nat.zero_le _) ?_
          refine jr_zret rfl rfl rfl (Nat.zero_le _) (Nat.zero_le _) ?_
          refine jr_if_eq rfl (fun _ => ?_) (fun z => absurd (by decide) z)
          refine jr_ic rfl ?_
          refine jr_iret rfl rfl (Nat.zero_le _) (Nat.zero_le _) ?_
          first
            | exact ⟨rfl, hRel0⟩
            | (exfalso; omega)
            | (exfalso; simp (disch := omega) only [Int32.lt_iff_toInt_lt, Int32.le_iff_toInt_le, ← Int32.toInt_inj, Int32.reduceToInt, nI_toInt] at c1RephasDue c5RephasDue m2MDisIn; done)
            | (exfalso; simp (disch := omega) only [Int32.lt_iff_toInt_lt, Int32.le_iff_toInt_le, ← Int32.toInt_inj, Int32.reduceToInt, nI_toInt] at c1RephasDue c5RephasDue m2MDisIn; omega)
        · refine jr_iload rfl rfl ?_
          refine jr_iload rfl rfl ?_
          refine jr_icmp_gt rfl (fun m5MDisIn => ?_) (fun m5MDisIn => ?_)
          · refine jr_ic rfl ?_
            refine jr_zret rfl rfl rfl (Nat.zero_le _) (Nat.zero_le _) ?_
            refine jr_zret rfl rfl rfl (Nat.zero_le _) (Nat.zero_le _) ?_
            refine jr_if_eq rfl (fun _ => ?_) (fun z => absurd (by decide) z)
            refine jr_ic rfl ?_
            refine jr_iret rfl rfl (Nat.zero_le _) (Nat.zero_le _) ?_
            first
              | exact ⟨rfl, hRel0⟩
              | (exfalso; omega)
              | (exfalso; simp (disch := omega) only [Int32.lt_iff_toInt_lt, Int32.le_iff_toInt_le, ← Int32.toInt_inj, Int32.reduceToInt, nI_toInt] at c1RephasDue c5RephasDue m2MDisIn m5MDisIn; done)
              | (exfalso; simp (disch := omega) only [Int32.lt_iff_toInt_lt, Int32.le_iff_toInt_le, ← Int32.toInt_inj, Int32.reduceToInt, nI_toInt] at c1RephasDue c5RephasDue m2MDisIn m5MDisIn; omega)
          · refine jr_ic rfl ?_
            refine jr_goto rfl ?_
            refine jr_zret rfl rfl rfl (Nat.zero_le _) (Nat.zero_le _) ?_
            refine jr_zret rfl rfl rfl (Nat.zero_le _) (Nat.zero_le _) ?_
            refine jr_if_eq rfl (fun z => absurd z (by decide)) (fun _ => ?_)
            refine jr_aload rfl rfl ?_
            refine jr_iload rfl rfl ?_
            refine jr_cv1 (mc' := 0) (ms' := 0) rfl jm_MD_isForgiven_n jm_MD_isForgiven_f rfl rfl rfl rfl rfl rfl rfl (Nat.zero_le _) (Nat.zero_le _) ?_
            show jx_W (jm_MD_isForgiven, _, _, _, _, _, _) _ 0 0 0 [some _, some _] [] _
            refine jr_aload rfl rfl ?_
            refine jr_getR rfl rfl rfl rfl (Or.inl rfl) ?_
            refine jr_ic rfl ?_
            refine jr_iald (len := 337) rfl rfl (show _ = nI 36 from rfl) (by decide) ?_
            refine jr_iload rfl rfl ?_
            refine jr_ishr rfl ?_
            refine jr_ic rfl ?_
            refine jr_iand rfl ?_
            refine jr_ic rfl ?_
            refine jr_icmp_ne rfl (fun m9MDisForgiven => ?_) (fun m9MDisForgiven => ?_)
            · refine jr_ic rfl ?_
              refine jr_zret rfl rfl rfl (Nat.zero_le _) (Nat.zero_le _) ?_
              refine jr_if_ne rfl (fun z => absurd (by decide) z) (fun _ => ?_)
              refine jr_iload rfl rfl ?_
              refine jr_ic rfl ?_
              refine jr_ic rfl ?_
              refine jr_cs3 (mc' := 0) (ms' := 0) rfl jm_MD_isIn_n jm_MD_isIn_f rfl rfl rfl rfl rfl (Nat.zero_le _) (Nat.zero_le _) ?_
              show jx_W (jm_MD_isIn, _, _, _, _, _, _) _ 0 0 0 [some _, some _, some _] [] _
              refine jr_iload rfl rfl ?_
              refine jr_iload rfl rfl ?_
              refine jr_icmp_lt rfl (fun z => absurd z (by decide)) (fun _ => ?_)
              refine jr_iload rfl rfl ?_
              refine jr_iload rfl rfl ?_
              refine jr_icmp_gt rfl (fun z => absurd z (by decide)) (fun _ => ?_)
              refine jr_ic rfl ?_
              refine jr_goto rfl ?_
              refine jr_zret rfl rfl rfl (Nat.zero_le _) (Nat.zero_le _) ?_
              refine jr_if_ne rfl (fun _ => ?_) (fun z => absurd z (by decide))
              refine jr_ic rfl ?_
              refine jr_aload rfl rfl ?_
              refine jr_getI rfl rfl ?_
              refine jr_imul rfl ?_
              refine jr_iload rfl rfl ?_
              refine jr_iadd rfl ?_
              refine jr_ist3 rfl rfl ?_
              refine jr_aload rfl rfl ?_
              refine jr_getR rfl rfl rfl rfl (Or.inl rfl) ?_
              refine jr_ic rfl ?_
              refine jr_aload rfl rfl ?_
              refine jr_getI rfl rfl ?_
              refine jr_imul rfl ?_
              refine jr_aload rfl rfl ?_
              refine jr_getR rfl rfl rfl rfl (Or.inl rfl) ?_
              refine jr_iload rfl rfl ?_
              refine jr_iald (len := 24) rfl rfl (jn_add (jn_mul (show _ = nI 12 from rfl) hw.1) rfl) (by omega) ?_
              rw [show jh_I hm 77 0 (12 * b + i) = nI M from d5]
              refine jr_iadd rfl ?_
              refine jr_iald (len := 12) rfl rfl (jn_add (jn_mul (show _ = nI 6 from rfl) hw.1) rfl) (by omega) ?_
              rw [show jh_I hm 70 0 (6 * b + M) = nI f from hf]
              refine jr_ist4 rfl rfl ?_
              refine jr_aload rfl rfl ?_
              refine jr_getR rfl rfl rfl rfl (Or.inl rfl) ?_
              refine jr_ic rfl ?_
              refine jr_aload rfl rfl ?_
              refine jr_getI rfl rfl ?_
              refine jr_imul rfl ?_
              refine jr_aload rfl rfl ?_
              refine jr_getR rfl rfl rfl rfl (Or.inl rfl) ?_
              refine jr_iload rfl rfl ?_
              refine jr_iald (len := 24) rfl rfl (jn_add (jn_mul (show _ = nI 12 from rfl) hw.1) rfl) (by omega) ?_
              rw [show jh_I hm 77 0 (12 * b + i) = nI M from d5]
              refine jr_iadd rfl ?_
              refine jr_iald (len := 12) rfl rfl (jn_add (jn_mul (show _ = nI 6 from rfl) hw.1) rfl) (by omega) ?_
              rw [show jh_I hm 71 0 (6 * b + M) = nI t from ht]
              refine jr_ist5 rfl rfl ?_
              first
                | (exfalso; omega)
                | (exfalso; simp (disch := omega) only [Int32.lt_iff_toInt_lt, Int32.le_iff_toInt_le, ← Int32.toInt_inj, Int32.reduceToInt, nI_toInt] at c1RephasDue c5RephasDue m2MDisIn m5MDisIn m9MDisForgiven; done)
                | (exfalso; simp (disch := omega) only [Int32.lt_iff_toInt_lt, Int32.le_iff_toInt_le, ← Int32.toInt_inj, Int32.reduceToInt, nI_toInt] at c1RephasDue c5RephasDue m2MDisIn m5MDisIn m9MDisForgiven; omega)
            · refine jr_ic rfl ?_
              refine jr_goto rfl ?_
              refine jr_zret rfl rfl rfl (Nat.zero_le _) (Nat.zero_le _) ?_
              refine jr_if_ne rfl (fun _ => ?_) (fun z => absurd z (by decide))
              refine jr_ic rfl ?_
              refine jr_iret rfl rfl (Nat.zero_le _) (Nat.zero_le _) ?_
              first
                | exact ⟨rfl, hRel0⟩
                | (exfalso; omega)
                | (exfalso; simp (disch := omega) only [Int32.lt_iff_toInt_lt, Int32.le_iff_toInt_le, ← Int32.toInt_inj, Int32.reduceToInt, nI_toInt] at c1RephasDue c5RephasDue m2MDisIn m5MDisIn m9MDisForgiven; done)
                | (exfalso; simp (disch := omega) only [Int32.lt_iff_toInt_lt, Int32.le_iff_toInt_le, ← Int32.toInt_inj, Int32.reduceToInt, nI_toInt] at c1RephasDue c5RephasDue m2MDisIn m5MDisIn m9MDisForgiven; omega)
      · refine jr_ic rfl ?_
        refine jr_goto rfl ?_
        refine jr_zret rfl rfl rfl (Nat.zero_le _) (Nat.zero_le _) ?_
        refine jr_if_eq rfl (fun z => absurd z (by decide)) (fun _ => ?_)
        refine jr_aload rfl rfl ?_
        refine jr_getR rfl rfl rfl rfl (Or.inl rfl) ?_
        refine jr_getR rfl rfl rfl rfl (Or.inl rfl) ?_
        refine jr_iload rfl rfl ?_
        refine jr_zald (len := 12) rfl rfl rfl (by omega) ?_
        rw [show jh_I hc 36 0 i = (jh_I hm 98 0 36 >>> (nI i &&& 31)) &&& 1 from e3]
        refine jr_if_eq rfl (fun c10 => ?_) (fun c10 => ?_)
        · refine jr_iload rfl rfl ?_
          refine jr_tsw rfl ?_
          refine ⟨fun z => absurd z (by decide), fun _ => ?_⟩
          refine ⟨fun _ => ?_, fun z => absurd (by decide) z⟩
          refine jr_aload rfl rfl ?_
          refine jr_getR rfl rfl rfl rfl (Or.inl rfl) ?_
          refine jr_aload rfl rfl ?_
          refine jr_getM rfl rfl rfl rfl hto ?_
          refine jr_iload rfl rfl ?_
          refine jr_cv1 (mc' := 0) (ms' := 0) rfl jm_Rep_dueAt_n jm_Rep_dueAt_f rfl rfl rfl rfl rfl rfl rfl (Nat.zero_le _) (Nat.zero_le _) ?_
          refine ev_Rep_dueAt (by omega) ?_
          refine jr_cv1 (mc' := 0) (ms' := 0) rfl jm_Cal_latestPaid_n jm_Cal_latestPaid_f rfl rfl rfl rfl rfl rfl rfl (Nat.zero_le _) (Nat.zero_le _) ?_
          refine ev_last hw hA hR hmo hd d5 d13 hf ht hft ht31 d12 hpd hm0 hml (fun hz => ?_) (fun hz => ?_)
          · refine jr_iret rfl rfl (Nat.zero_le _) (Nat.zero_le _) ?_
            show jx_W (jm_MD_span, d + 40, 0, 0, false, 1, _) _ 0 0 0 [some _, some _, some _, none, none, none, none, none] [] _
            refine jr_aload rfl rfl ?_
            refine jr_iload rfl rfl ?_
            refine jr_cv1 (mc' := 0) (ms' := 0) rfl jm_MD_isDue_n jm_MD_isDue_f rfl rfl rfl rfl rfl rfl rfl (Nat.zero_le _) (Nat.zero_le _) ?_
            show jx_W (jm_MD_isDue, _, _, _, _, _, _) _ 0 0 0 [some _, some _] [] _
            refine jr_iload rfl rfl ?_
            refine jr_ic rfl ?_
            refine jr_aload rfl rfl ?_
            refine jr_cv0 (mc' := 0) (ms' := 0) rfl jm_MD_dueMany_n jm_MD_dueMany_f rfl rfl rfl rfl rfl rfl rfl (Nat.zero_le _) (Nat.zero_le _) ?_
            show jx_W (jm_MD_dueMany, _, _, _, _, _, _) _ 0 0 0 [some _] [] _
            refine jr_aload rfl rfl ?_
            refine jr_getR rfl rfl rfl rfl (Or.inl rfl) ?_
            refine jr_aload rfl rfl ?_
            refine jr_getI rfl rfl ?_
            refine jr_iald (len := 2) rfl rfl hw.1 (by omega) ?_
            refine jr_iret rfl rfl (Nat.zero_le _) (Nat.zero_le _) ?_
            refine jr_ic rfl ?_
            refine jr_isub rfl ?_
            refine jr_cs3 (mc' := 0) (ms' := 0) rfl jm_MD_isIn_n jm_MD_isIn_f rfl rfl rfl rfl rfl (Nat.zero_le _) (Nat.zero_le _) ?_
            show jx_W (jm_MD_isIn, _, _, _, _, _, _) _ 0 0 0 [some _, some _, some _] [] _
            refine jr_iload rfl rfl ?_
            refine jr_iload rfl rfl ?_
            refine jr_icmp_lt rfl (fun m2MDisIn => ?_) (fun m2MDisIn => ?_)
            · refine jr_ic rfl ?_
              refine jr_zret rfl rfl rfl (Nat.zero_le _) (Nat.zero_le _) ?_
              refine jr_zret rfl rfl rfl (Nat.zero_le _) (Nat.zero_le _) ?_
              refine jr_if_eq rfl (fun _ => ?_) (fun z => absurd (by decide) z)
              refine jr_ic rfl ?_
              refine jr_iret rfl rfl (Nat.zero_le _) (Nat.zero_le _) ?_
              first
                | (exfalso; omega)
                | (exfalso; simp (disch := omega) only [Int32.lt_iff_toInt_lt, Int32.le_iff_toInt_le, ← Int32.toInt_inj, Int32.reduceToInt, nI_toInt] at c1RephasDue c5RephasDue c10 m2MDisIn; done)
                | (exfalso; simp (disch := omega) only [Int32.lt_iff_toInt_lt, Int32.le_iff_toInt_le, ← Int32.toInt_inj, Int32.reduceToInt, nI_toInt] at c1RephasDue c5RephasDue c10 m2MDisIn; omega)
            · refine jr_iload rfl rfl ?_
              refine jr_iload rfl rfl ?_
              refine jr_icmp_gt rfl (fun m5MDisIn => ?_) (fun m5MDisIn => ?_)
              · refine jr_ic rfl ?_
                refine jr_zret rfl rfl rfl (Nat.zero_le _) (Nat.zero_le _) ?_
                refine jr_zret rfl rfl rfl (Nat.zero_le _) (Nat.zero_le _) ?_
                refine jr_if_eq rfl (fun _ => ?_) (fun z => absurd (by decide) z)
                refine jr_ic rfl ?_
                refine jr_iret rfl rfl (Nat.zero_le _) (Nat.zero_le _) ?_
                first
                  | (exfalso; omega)
                  | (exfalso; simp (disch := omega) only [Int32.lt_iff_toInt_lt, Int32.le_iff_toInt_le, ← Int32.toInt_inj, Int32.reduceToInt, nI_toInt] at c1RephasDue c5RephasDue c10 m2MDisIn m5MDisIn; done)
                  | (exfalso; simp (disch := omega) only [Int32.lt_iff_toInt_lt, Int32.le_iff_toInt_le, ← Int32.toInt_inj, Int32.reduceToInt, nI_toInt] at c1RephasDue c5RephasDue c10 m2MDisIn m5MDisIn; omega)
              · refine jr_ic rfl ?_
                refine jr_goto rfl ?_
                refine jr_zret rfl rfl rfl (Nat.zero_le _) (Nat.zero_le _) ?_
                refine jr_zret rfl rfl rfl (Nat.zero_le _) (Nat.zero_le _) ?_
                refine jr_if_eq rfl (fun z => absurd z (by decide)) (fun _ => ?_)
                refine jr_aload rfl rfl ?_
                refine jr_iload rfl rfl ?_
                refine jr_cv1 (mc' := 0) (ms' := 0) rfl jm_MD_isForgiven_n jm_MD_isForgiven_f rfl rfl rfl rfl rfl rfl rfl (Nat.zero_le _) (Nat.zero_le _) ?_
                show jx_W (jm_MD_isForgiven, _, _, _, _, _, _) _ 0 0 0 [some _, some _] [] _
                refine jr_aload rfl rfl ?_
                refine jr_getR rfl rfl rfl rfl (Or.inl rfl) ?_
                refine jr_ic rfl ?_
                refine jr_iald (len := 337) rfl rfl (show _ = nI 36 from rfl) (by decide) ?_
                refine jr_iload rfl rfl ?_
                refine jr_ishr rfl ?_
                refine jr_ic rfl ?_
                refine jr_iand rfl ?_
                refine jr_ic rfl ?_
                refine jr_icmp_ne rfl (fun m9MDisForgiven => ?_) (fun m9MDisForgiven => ?_)
                · refine jr_ic rfl ?_
                  refine jr_zret rfl rfl rfl (Nat.zero_le _) (Nat.zero_le _) ?_
                  refine jr_if_ne rfl (fun z => absurd (by decide) z) (fun _ => ?_)
                  refine jr_iload rfl rfl ?_
                  refine jr_ic rfl ?_
                  refine jr_ic rfl ?_
                  refine jr_cs3 (mc' := 0) (ms' := 0) rfl jm_MD_isIn_n jm_MD_isIn_f rfl rfl rfl rfl rfl (Nat.zero_le _) (Nat.zero_le _) ?_
                  show jx_W (jm_MD_isIn, _, _, _, _, _, _) _ 0 0 0 [some _, some _, some _] [] _
                  refine jr_iload rfl rfl ?_
                  refine jr_iload rfl rfl ?_
                  refine jr_icmp_lt rfl (fun z => absurd z (by decide)) (fun _ => ?_)
                  refine jr_iload rfl rfl ?_
                  refine jr_iload rfl rfl ?_
                  refine jr_icmp_gt rfl (fun z => absurd z (by decide)) (fun _ => ?_)
                  refine jr_ic rfl ?_
                  refine jr_goto rfl ?_
                  refine jr_zret rfl rfl rfl (Nat.zero_le _) (Nat.zero_le _) ?_
                  refine jr_if_ne rfl (fun _ => ?_) (fun z => absurd z (by decide))
                  refine jr_ic rfl ?_
                  refine jr_aload rfl rfl ?_
                  refine jr_getI rfl rfl ?_
                  refine jr_imul rfl ?_
                  refine jr_iload rfl rfl ?_
                  refine jr_iadd rfl ?_
                  rw [show (12 : Int32) * jh_I hm 11 0 43 + nI i = nI (12 * b + i) from jn_add (jn_mul (show (12 : Int32) = nI 12 from rfl) hw.1) rfl]
                  refine jr_ist3 rfl rfl ?_
                  refine jr_aload rfl rfl ?_
                  refine jr_getR rfl rfl rfl rfl (Or.inl rfl) ?_
                  refine jr_ic rfl ?_
                  refine jr_aload rfl rfl ?_
                  refine jr_getI rfl rfl ?_
                  refine jr_imul rfl ?_
                  refine jr_aload rfl rfl ?_
                  refine jr_getR rfl rfl rfl rfl (Or.inl rfl) ?_
                  refine jr_iload rfl rfl ?_
                  refine jr_iald (len := 24) rfl rfl rfl (by omega) ?_
                  rw [show jh_I hm 77 0 (12 * b + i) = nI M from d5]
                  refine jr_iadd rfl ?_
                  refine jr_iald (len := 12) rfl rfl (jn_add (jn_mul (show _ = nI 6 from rfl) hw.1) rfl) (by omega) ?_
                  rw [show jh_I hm 70 0 (6 * b + M) = nI f from hf]
                  refine jr_ist4 rfl rfl ?_
                  refine jr_aload rfl rfl ?_
                  refine jr_getR rfl rfl rfl rfl (Or.inl rfl) ?_
                  refine jr_ic rfl ?_
                  refine jr_aload rfl rfl ?_
                  refine jr_getI rfl rfl ?_
                  refine jr_imul rfl ?_
                  refine jr_aload rfl rfl ?_
                  refine jr_getR rfl rfl rfl rfl (Or.inl rfl) ?_
                  refine jr_iload rfl rfl ?_
                  refine jr_iald (len := 24) rfl rfl rfl (by omega) ?_
                  rw [show jh_I hm 77 0 (12 * b + i) = nI M from d5]
                  refine jr_iadd rfl ?_
                  refine jr_iald (len := 12) rfl rfl (jn_add (jn_mul (show _ = nI 6 from rfl) hw.1) rfl) (by omega) ?_
                  rw [show jh_I hm 71 0 (6 * b + M) = nI t from ht]
                  refine jr_ist5 rfl rfl ?_
                  refine jr_iload rfl rfl ?_
                  refine jr_ic rfl ?_
                  refine jr_icmp_ne rfl (fun _ => ?_) (fun z => absurd z (by decide))
                  refine jr_aload rfl rfl ?_
                  refine jr_iload rfl rfl ?_
                  refine jr_iload rfl rfl ?_
                  refine jr_cv2 (mc' := 0) (ms' := 0) rfl jm_MD_paidOn_n jm_MD_paidOn_f rfl rfl rfl rfl rfl rfl rfl (Nat.zero_le _) (Nat.zero_le _) ?_
                  refine ev_MD_paidOn (b := b) hw.1 hb2 (by omega) ?_
                  rw [hpd t (by omega)]
                  refine jr_if_ne rfl (fun z => absurd (show nI (jw_pn lt u t) = 0 from congrArg nI hz) z) (fun _ => ?_)
                  refine jr_ic rfl ?_
                  refine jr_iret rfl rfl (Nat.zero_le _) (Nat.zero_le _) ?_
                  exact ⟨rfl, hRel0⟩
                · refine jr_ic rfl ?_
                  refine jr_goto rfl ?_
                  refine jr_zret rfl rfl rfl (Nat.zero_le _) (Nat.zero_le _) ?_
                  refine jr_if_ne rfl (fun _ => ?_) (fun z => absurd z (by decide))
                  refine jr_ic rfl ?_
                  refine jr_iret rfl rfl (Nat.zero_le _) (Nat.zero_le _) ?_
                  first
                    | (exfalso; omega)
                    | (exfalso; simp (disch := omega) only [Int32.lt_iff_toInt_lt, Int32.le_iff_toInt_le, ← Int32.toInt_inj, Int32.reduceToInt, nI_toInt] at c1RephasDue c5RephasDue c10 m2MDisIn m5MDisIn m9MDisForgiven; done)
                    | (exfalso; simp (disch := omega) only [Int32.lt_iff_toInt_lt, Int32.le_iff_toInt_le, ← Int32.toInt_inj, Int32.reduceToInt, nI_toInt] at c1RephasDue c5RephasDue c10 m2MDisIn m5MDisIn m9MDisForgiven; omega)
          · refine jr_iret rfl rfl (Nat.zero_le _) (Nat.zero_le _) ?_
            show jx_W (jm_MD_span, d + 40, 0, 0, false, 1, _) _ 0 0 0 [some _, some _, some _, none, none, none, none, none] [] _
            refine jr_aload rfl rfl ?_
            refine jr_iload rfl rfl ?_
            refine jr_cv1 (mc' := 0) (ms' := 0) rfl jm_MD_isDue_n jm_MD_isDue_f rfl rfl rfl rfl rfl rfl rfl (Nat.zero_le _) (Nat.zero_le _) ?_
            show jx_W (jm_MD_isDue, _, _, _, _, _, _) _ 0 0 0 [some _, some _] [] _
            refine jr_iload rfl rfl ?_
            refine jr_ic rfl ?_
            refine jr_aload rfl rfl ?_
            refine jr_cv0 (mc' := 0) (ms' := 0) rfl jm_MD_dueMany_n jm_MD_dueMany_f rfl rfl rfl rfl rfl rfl rfl (Nat.zero_le _) (Nat.zero_le _) ?_
            show jx_W (jm_MD_dueMany, _, _, _, _, _, _) _ 0 0 0 [some _] [] _
            refine jr_aload rfl rfl ?_
            refine jr_getR rfl rfl rfl rfl (Or.inl rfl) ?_
            refine jr_aload rfl rfl ?_
            refine jr_getI rfl rfl ?_
            refine jr_iald (len := 2) rfl rfl hw.1 (by omega) ?_
            refine jr_iret rfl rfl (Nat.zero_le _) (Nat.zero_le _) ?_
            refine jr_ic rfl ?_
            refine jr_isub rfl ?_
            refine jr_cs3 (mc' := 0) (ms' := 0) rfl jm_MD_isIn_n jm_MD_isIn_f rfl rfl rfl rfl rfl (Nat.zero_le _) (Nat.zero_le _) ?_
            show jx_W (jm_MD_isIn, _, _, _, _, _, _) _ 0 0 0 [some _, some _, some _] [] _
            refine jr_iload rfl rfl ?_
            refine jr_iload rfl rfl ?_
            refine jr_icmp_lt rfl (fun m2MDisIn => ?_) (fun m2MDisIn => ?_)
            · refine jr_ic rfl ?_
              refine jr_zret rfl rfl rfl (Nat.zero_le _) (Nat.zero_le _) ?_
              refine jr_zret rfl rfl rfl (Nat.zero_le _) (Nat.zero_le _) ?_
              refine jr_if_eq rfl (fun _ => ?_) (fun z => absurd (by decide) z)
              refine jr_ic rfl ?_
              refine jr_iret rfl rfl (Nat.zero_le _) (Nat.zero_le _) ?_
              first
                | (exfalso; omega)
                | (exfalso; simp (disch := omega) only [Int32.lt_iff_toInt_lt, Int32.le_iff_toInt_le, ← Int32.toInt_inj, Int32.reduceToInt, nI_toInt] at c1RephasDue c5RephasDue c10 m2MDisIn; done)
                | (exfalso; simp (disch := omega) only [Int32.lt_iff_toInt_lt, Int32.le_iff_toInt_le, ← Int32.toInt_inj, Int32.reduceToInt, nI_toInt] at c1RephasDue c5RephasDue c10 m2MDisIn; omega)
            · refine jr_iload rfl rfl ?_
              refine jr_iload rfl rfl ?_
              refine jr_icmp_gt rfl (fun m5MDisIn => ?_) (fun m5MDisIn => ?_)
              · refine jr_ic rfl ?_
                refine jr_zret rfl rfl rfl (Nat.zero_le _) (Nat.zero_le _) ?_
                refine jr_zret rfl rfl rfl (Nat.zero_le _) (Nat.zero_le _) ?_
                refine jr_if_eq rfl (fun _ => ?_) (fun z => absurd (by decide) z)
                refine jr_ic rfl ?_
                refine jr_iret rfl rfl (Nat.zero_le _) (Nat.zero_le _) ?_
                first
                  | (exfalso; omega)
                  | (exfalso; simp (disch := omega) only [Int32.lt_iff_toInt_lt, Int32.le_iff_toInt_le, ← Int32.toInt_inj, Int32.reduceToInt, nI_toInt] at c1RephasDue c5RephasDue c10 m2MDisIn m5MDisIn; done)
                  | (exfalso; simp (disch := omega) only [Int32.lt_iff_toInt_lt, Int32.le_iff_toInt_le, ← Int32.toInt_inj, Int32.reduceToInt, nI_toInt] at c1RephasDue c5RephasDue c10 m2MDisIn m5MDisIn; omega)
              · refine jr_ic rfl ?_
                refine jr_goto rfl ?_
                refine jr_zret rfl rfl rfl (Nat.zero_le _) (Nat.zero_le _) ?_
                refine jr_zret rfl rfl rfl (Nat.zero_le _) (Nat.zero_le _) ?_
                refine jr_if_eq rfl (fun z => absurd z (by decide)) (fun _ => ?_)
                refine jr_aload rfl rfl ?_
                refine jr_iload rfl rfl ?_
                refine jr_cv1 (mc' := 0) (ms' := 0) rfl jm_MD_isForgiven_n jm_MD_isForgiven_f rfl rfl rfl rfl rfl rfl rfl (Nat.zero_le _) (Nat.zero_le _) ?_
                show jx_W (jm_MD_isForgiven, _, _, _, _, _, _) _ 0 0 0 [some _, some _] [] _
                refine jr_aload rfl rfl ?_
                refine jr_getR rfl rfl rfl rfl (Or.inl rfl) ?_
                refine jr_ic rfl ?_
                refine jr_iald (len := 337) rfl rfl (show _ = nI 36 from rfl) (by decide) ?_
                refine jr_iload rfl rfl ?_
                refine jr_ishr rfl ?_
                refine jr_ic rfl ?_
                refine jr_iand rfl ?_
                refine jr_ic rfl ?_
                refine jr_icmp_ne rfl (fun m9MDisForgiven => ?_) (fun m9MDisForgiven => ?_)
                · refine jr_ic rfl ?_
                  refine jr_zret rfl rfl rfl (Nat.zero_le _) (Nat.zero_le _) ?_
                  refine jr_if_ne rfl (fun z => absurd (by decide) z) (fun _ => ?_)
                  refine jr_iload rfl rfl ?_
                  refine jr_ic rfl ?_
                  refine jr_ic rfl ?_
                  refine jr_cs3 (mc' := 0) (ms' := 0) rfl jm_MD_isIn_n jm_MD_isIn_f rfl rfl rfl rfl rfl (Nat.zero_le _) (Nat.zero_le _) ?_
                  show jx_W (jm_MD_isIn, _, _, _, _, _, _) _ 0 0 0 [some _, some _, some _] [] _
                  refine jr_iload rfl rfl ?_
                  refine jr_iload rfl rfl ?_
                  refine jr_icmp_lt rfl (fun z => absurd z (by decide)) (fun _ => ?_)
                  refine jr_iload rfl rfl ?_
                  refine jr_iload rfl rfl ?_
                  refine jr_icmp_gt rfl (fun z => absurd z (by decide)) (fun _ => ?_)
                  refine jr_ic rfl ?_
                  refine jr_goto rfl ?_
                  refine jr_zret rfl rfl rfl (Nat.zero_le _) (Nat.zero_le _) ?_
                  refine jr_if_ne rfl (fun _ => ?_) (fun z => absurd z (by decide))
                  refine jr_ic rfl ?_
                  refine jr_aload rfl rfl ?_
                  refine jr_getI rfl rfl ?_
                  refine jr_imul rfl ?_
                  refine jr_iload rfl rfl ?_
                  refine jr_iadd rfl ?_
                  rw [show (12 : Int32) * jh_I hm 11 0 43 + nI i = nI (12 * b + i) from jn_add (jn_mul (show (12 : Int32) = nI 12 from rfl) hw.1) rfl]
                  refine jr_ist3 rfl rfl ?_
                  refine jr_aload rfl rfl ?_
                  refine jr_getR rfl rfl rfl rfl (Or.inl rfl) ?_
                  refine jr_ic rfl ?_
                  refine jr_aload rfl rfl ?_
                  refine jr_getI rfl rfl ?_
                  refine jr_imul rfl ?_
                  refine jr_aload rfl rfl ?_
                  refine jr_getR rfl rfl rfl rfl (Or.inl rfl) ?_
                  refine jr_iload rfl rfl ?_
                  refine jr_iald (len := 24) rfl rfl rfl (by omega) ?_
                  rw [show jh_I hm 77 0 (12 * b + i) = nI M from d5]
                  refine jr_iadd rfl ?_
                  refine jr_iald (len := 12) rfl rfl (jn_add (jn_mul (show _ = nI 6 from rfl) hw.1) rfl) (by omega) ?_
                  rw [show jh_I hm 70 0 (6 * b + M) = nI f from hf]
                  refine jr_ist4 rfl rfl ?_
                  refine jr_aload rfl rfl ?_
                  refine jr_getR rfl rfl rfl rfl (Or.inl rfl) ?_
                  refine jr_ic rfl ?_
                  refine jr_aload rfl rfl ?_
                  refine jr_getI rfl rfl ?_
                  refine jr_imul rfl ?_
                  refine jr_aload rfl rfl ?_
                  refine jr_getR rfl rfl rfl rfl (Or.inl rfl) ?_
                  refine jr_iload rfl rfl ?_
                  refine jr_iald (len := 24) rfl rfl rfl (by omega) ?_
                  rw [show jh_I hm 77 0 (12 * b + i) = nI M from d5]
                  refine jr_iadd rfl ?_
                  refine jr_iald (len := 12) rfl rfl (jn_add (jn_mul (show _ = nI 6 from rfl) hw.1) rfl) (by omega) ?_
                  rw [show jh_I hm 71 0 (6 * b + M) = nI t from ht]
                  refine jr_ist5 rfl rfl ?_
                  refine jr_iload rfl rfl ?_
                  refine jr_ic rfl ?_
                  refine jr_icmp_ne rfl (fun _ => ?_) (fun z => absurd z (by decide))
                  refine jr_aload rfl rfl ?_
                  refine jr_iload rfl rfl ?_
                  refine jr_iload rfl rfl ?_
                  refine jr_cv2 (mc' := 0) (ms' := 0) rfl jm_MD_paidOn_n jm_MD_paidOn_f rfl rfl rfl rfl rfl rfl rfl (Nat.zero_le _) (Nat.zero_le _) ?_
                  refine ev_MD_paidOn (b := b) hw.1 hb2 (by omega) ?_
                  rw [hpd t (by omega)]
                  refine jr_if_ne rfl (fun _ => ?_) (fun z => absurd z (nI_n0 hz (by omega)))
                  refine jr_ic rfl ?_
                  refine jr_ist6 rfl rfl ?_
                  refine jr_aload rfl rfl ?_
                  refine jr_cv0 (mc' := 0) (ms' := 0) rfl jm_MD_month_n jm_MD_month_f rfl rfl rfl rfl rfl rfl rfl (Nat.zero_le _) (Nat.zero_le _) ?_
                  refine ev_MD_month (b := b) hw.1 hb2 hmo ?_
                  rw [hm0]
                  refine jr_ist7 rfl rfl ?_
                  refine lp_MD_till1 6 m0 0 hw hi12 hmo d5 d13 hml (by have := jw_ds_lt hml d13; omega) ?_
                  refine jr_iload rfl rfl ?_
                  refine jr_if_ne rfl (fun _ => ?_) (fun z => absurd z (by decide))
                  refine jr_iload rfl rfl ?_
                  refine jr_ist7 rfl rfl ?_
                  exact lp_MD_soon1 t hw hi12 d12 hpd (Nat.le_refl _) (by omega) hz (fun q h5 h6 => absurd h6 (by omega)) ⟨rfl, hRel0⟩
                · refine jr_ic rfl ?_
                  refine jr_goto rfl ?_
                  refine jr_zret rfl rfl rfl (Nat.zero_le _) (Nat.zero_le _) ?_
                  refine jr_if_ne rfl (fun _ => ?_) (fun z => absurd z (by decide))
                  refine jr_ic rfl ?_
                  refine jr_iret rfl rfl (Nat.zero_le _) (Nat.zero_le _) ?_
                  first
                    | (exfalso; omega)
                    | (exfalso; simp (disch := omega) only [Int32.lt_iff_toInt_lt, Int32.le_iff_toInt_le, ← Int32.toInt_inj, Int32.reduceToInt, nI_toInt] at c1RephasDue c5RephasDue c10 m2MDisIn m5MDisIn m9MDisForgiven; done)
                    | (exfalso; simp (disch := omega) only [Int32.lt_iff_toInt_lt, Int32.le_iff_toInt_le, ← Int32.toInt_inj, Int32.reduceToInt, nI_toInt] at c1RephasDue c5RephasDue c10 m2MDisIn m5MDisIn m9MDisForgiven; omega)
        · refine jr_ic rfl ?_
          refine jr_iret rfl rfl (Nat.zero_le _) (Nat.zero_le _) ?_
          show jx_W (jm_MD_span, d + 40, 0, 0, false, 1, _) _ 0 0 0 [some _, some _, some _, none, none, none, none, none] [] _
          refine jr_aload rfl rfl ?_
          refine jr_iload rfl rfl ?_
          refine jr_cv1 (mc' := 0) (ms' := 0) rfl jm_MD_isDue_n jm_MD_isDue_f rfl rfl rfl rfl rfl rfl rfl (Nat.zero_le _) (Nat.zero_le _) ?_
          show jx_W (jm_MD_isDue, _, _, _, _, _, _) _ 0 0 0 [some _, some _] [] _
          refine jr_iload rfl rfl ?_
          refine jr_ic rfl ?_
          refine jr_aload rfl rfl ?_
          refine jr_cv0 (mc' := 0) (ms' := 0) rfl jm_MD_dueMany_n jm_MD_dueMany_f rfl rfl rfl rfl rfl rfl rfl (Nat.zero_le _) (Nat.zero_le _) ?_
          show jx_W (jm_MD_dueMany, _, _, _, _, _, _) _ 0 0 0 [some _] [] _
          refine jr_aload rfl rfl ?_
          refine jr_getR rfl rfl rfl rfl (Or.inl rfl) ?_
          refine jr_aload rfl rfl ?_
          refine jr_getI rfl rfl ?_
          refine jr_iald (len := 2) rfl rfl hw.1 (by omega) ?_
          refine jr_iret rfl rfl (Nat.zero_le _) (Nat.zero_le _) ?_
          refine jr_ic rfl ?_
          refine jr_isub rfl ?_
          refine jr_cs3 (mc' := 0) (ms' := 0) rfl jm_MD_isIn_n jm_MD_isIn_f rfl rfl rfl rfl rfl (Nat.zero_le _) (Nat.zero_le _) ?_
          show jx_W (jm_MD_isIn, _, _, _, _, _, _) _ 0 0 0 [some _, some _, some _] [] _
          refine jr_iload rfl rfl ?_
          refine jr_iload rfl rfl ?_
          refine jr_icmp_lt rfl (fun m2MDisIn => ?_) (fun m2MDisIn => ?_)
          · refine jr_ic rfl ?_
            refine jr_zret rfl rfl rfl (Nat.zero_le _) (Nat.zero_le _) ?_
            refine jr_zret rfl rfl rfl (Nat.zero_le _) (Nat.zero_le _) ?_
            refine jr_if_eq rfl (fun _ => ?_) (fun z => absurd (by decide) z)
            refine jr_ic rfl ?_
            refine jr_iret rfl rfl (Nat.zero_le _) (Nat.zero_le _) ?_
            first
              | exact ⟨rfl, hRel0⟩
              | (exfalso; omega)
              | (exfalso; simp (disch := omega) only [Int32.lt_iff_toInt_lt, Int32.le_iff_toInt_le, ← Int32.toInt_inj, Int32.reduceToInt, nI_toInt] at c1RephasDue c5RephasDue c10 m2MDisIn; done)
              | (exfalso; simp (disch := omega) only [Int32.lt_iff_toInt_lt, Int32.le_iff_toInt_le, ← Int32.toInt_inj, Int32.reduceToInt, nI_toInt] at c1RephasDue c5RephasDue c10 m2MDisIn; omega)
          · refine jr_iload rfl rfl ?_
            refine jr_iload rfl rfl ?_
            refine jr_icmp_gt rfl (fun m5MDisIn => ?_) (fun m5MDisIn => ?_)
            · refine jr_ic rfl ?_
              refine jr_zret rfl rfl rfl (Nat.zero_le _) (Nat.zero_le _) ?_
              refine jr_zret rfl rfl rfl (Nat.zero_le _) (Nat.zero_le _) ?_
              refine jr_if_eq rfl (fun _ => ?_) (fun z => absurd (by decide) z)
              refine jr_ic rfl ?_
              refine jr_iret rfl rfl (Nat.zero_le _) (Nat.zero_le _) ?_
              first
                | exact ⟨rfl, hRel0⟩
                | (exfalso; omega)
                | (exfalso; simp (disch := omega) only [Int32.lt_iff_toInt_lt, Int32.le_iff_toInt_le, ← Int32.toInt_inj, Int32.reduceToInt, nI_toInt] at c1RephasDue c5RephasDue c10 m2MDisIn m5MDisIn; done)
                | (exfalso; simp (disch := omega) only [Int32.lt_iff_toInt_lt, Int32.le_iff_toInt_le, ← Int32.toInt_inj, Int32.reduceToInt, nI_toInt] at c1RephasDue c5RephasDue c10 m2MDisIn m5MDisIn; omega)
            · refine jr_ic rfl ?_
              refine jr_goto rfl ?_
              refine jr_zret rfl rfl rfl (Nat.zero_le _) (Nat.zero_le _) ?_
              refine jr_zret rfl rfl rfl (Nat.zero_le _) (Nat.zero_le _) ?_
              refine jr_if_eq rfl (fun z => absurd z (by decide)) (fun _ => ?_)
              refine jr_aload rfl rfl ?_
              refine jr_iload rfl rfl ?_
              refine jr_cv1 (mc' := 0) (ms' := 0) rfl jm_MD_isForgiven_n jm_MD_isForgiven_f rfl rfl rfl rfl rfl rfl rfl (Nat.zero_le _) (Nat.zero_le _) ?_
              show jx_W (jm_MD_isForgiven, _, _, _, _, _, _) _ 0 0 0 [some _, some _] [] _
              refine jr_aload rfl rfl ?_
              refine jr_getR rfl rfl rfl rfl (Or.inl rfl) ?_
              refine jr_ic rfl ?_
              refine jr_iald (len := 337) rfl rfl (show _ = nI 36 from rfl) (by decide) ?_
              refine jr_iload rfl rfl ?_
              refine jr_ishr rfl ?_
              refine jr_ic rfl ?_
              refine jr_iand rfl ?_
              refine jr_ic rfl ?_
              refine jr_icmp_ne rfl (fun m9MDisForgiven => ?_) (fun m9MDisForgiven => ?_)
              · refine jr_ic rfl ?_
                refine jr_zret rfl rfl rfl (Nat.zero_le _) (Nat.zero_le _) ?_
                refine jr_if_ne rfl (fun z => absurd (by decide) z) (fun _ => ?_)
                refine jr_iload rfl rfl ?_
                refine jr_ic rfl ?_
                refine jr_ic rfl ?_
                refine jr_cs3 (mc' := 0) (ms' := 0) rfl jm_MD_isIn_n jm_MD_isIn_f rfl rfl rfl rfl rfl (Nat.zero_le _) (Nat.zero_le _) ?_
                show jx_W (jm_MD_isIn, _, _, _, _, _, _) _ 0 0 0 [some _, some _, some _] [] _
                refine jr_iload rfl rfl ?_
                refine jr_iload rfl rfl ?_
                refine jr_icmp_lt rfl (fun z => absurd z (by decide)) (fun _ => ?_)
                refine jr_iload rfl rfl ?_
                refine jr_iload rfl rfl ?_
                refine jr_icmp_gt rfl (fun z => absurd z (by decide)) (fun _ => ?_)
                refine jr_ic rfl ?_
                refine jr_goto rfl ?_
                refine jr_zret rfl rfl rfl (Nat.zero_le _) (Nat.zero_le _) ?_
                refine jr_if_ne rfl (fun _ => ?_) (fun z => absurd z (by decide))
                refine jr_ic rfl ?_
                refine jr_aload rfl rfl ?_
                refine jr_getI rfl rfl ?_
                refine jr_imul rfl ?_
                refine jr_iload rfl rfl ?_
                refine jr_iadd rfl ?_
                refine jr_ist3 rfl rfl ?_
                refine jr_aload rfl rfl ?_
                refine jr_getR rfl rfl rfl rfl (Or.inl rfl) ?_
                refine jr_ic rfl ?_
                refine jr_aload rfl rfl ?_
                refine jr_getI rfl rfl ?_
                refine jr_imul rfl ?_
                refine jr_aload rfl rfl ?_
                refine jr_getR rfl rfl rfl rfl (Or.inl rfl) ?_
                refine jr_iload rfl rfl ?_
                refine jr_iald (len := 24) rfl rfl (jn_add (jn_mul (show _ = nI 12 from rfl) hw.1) rfl) (by omega) ?_
                rw [show jh_I hm 77 0 (12 * b + i) = nI M from d5]
                refine jr_iadd rfl ?_
                refine jr_iald (len := 12) rfl rfl (jn_add (jn_mul (show _ = nI 6 from rfl) hw.1) rfl) (by omega) ?_
                rw [show jh_I hm 70 0 (6 * b + M) = nI f from hf]
                refine jr_ist4 rfl rfl ?_
                refine jr_aload rfl rfl ?_
                refine jr_getR rfl rfl rfl rfl (Or.inl rfl) ?_
                refine jr_ic rfl ?_
                refine jr_aload rfl rfl ?_
                refine jr_getI rfl rfl ?_
                refine jr_imul rfl ?_
                refine jr_aload rfl rfl ?_
                refine jr_getR rfl rfl rfl rfl (Or.inl rfl) ?_
                refine jr_iload rfl rfl ?_
                refine jr_iald (len := 24) rfl rfl (jn_add (jn_mul (show _ = nI 12 from rfl) hw.1) rfl) (by omega) ?_
                rw [show jh_I hm 77 0 (12 * b + i) = nI M from d5]
                refine jr_iadd rfl ?_
                refine jr_iald (len := 12) rfl rfl (jn_add (jn_mul (show _ = nI 6 from rfl) hw.1) rfl) (by omega) ?_
                rw [show jh_I hm 71 0 (6 * b + M) = nI t from ht]
                refine jr_ist5 rfl rfl ?_
                first
                  | (exfalso; omega)
                  | (exfalso; simp (disch := omega) only [Int32.lt_iff_toInt_lt, Int32.le_iff_toInt_le, ← Int32.toInt_inj, Int32.reduceToInt, nI_toInt] at c1RephasDue c5RephasDue c10 m2MDisIn m5MDisIn m9MDisForgiven; done)
                  | (exfalso; simp (disch := omega) only [Int32.lt_iff_toInt_lt, Int32.le_iff_toInt_le, ← Int32.toInt_inj, Int32.reduceToInt, nI_toInt] at c1RephasDue c5RephasDue c10 m2MDisIn m5MDisIn m9MDisForgiven; omega)
              · refine jr_ic rfl ?_
                refine jr_goto rfl ?_
                refine jr_zret rfl rfl rfl (Nat.zero_le _) (Nat.zero_le _) ?_
                refine jr_if_ne rfl (fun _ => ?_) (fun z => absurd z (by decide))
                refine jr_ic rfl ?_
                refine jr_iret rfl rfl (Nat.zero_le _) (Nat.zero_le _) ?_
                first
                  | exact ⟨rfl, hRel0⟩
                  | (exfalso; omega)
                  | (exfalso; simp (disch := omega) only [Int32.lt_iff_toInt_lt, Int32.le_iff_toInt_le, ← Int32.toInt_inj, Int32.reduceToInt, nI_toInt] at c1RephasDue c5RephasDue c10 m2MDisIn m5MDisIn m9MDisForgiven; done)
                  | (exfalso; simp (disch := omega) only [Int32.lt_iff_toInt_lt, Int32.le_iff_toInt_le, ← Int32.toInt_inj, Int32.reduceToInt, nI_toInt] at c1RephasDue c5RephasDue c10 m2MDisIn m5MDisIn m9MDisForgiven; omega)
  · show jx_W (jm_JV_span, d + 40, 0, 0, false, 0, _) _ 0 0 0 [some (jv_r 10 0), some (jv_i x), some (jv_i 1)] [] _
    refine jr_aload rfl rfl ?_
    refine jr_getM rfl rfl rfl rfl hto ?_
    refine jr_iload rfl rfl ?_
    refine jr_cv1 (mc' := 0) (ms' := 0) rfl jm_Rep_hasDue_n jm_Rep_hasDue_f rfl rfl rfl rfl rfl rfl rfl (Nat.zero_le _) (Nat.zero_le _) ?_
    show jx_W (jm_Rep_hasDue, _, _, _, _, _, _) _ 0 0 0 [some _, some _] [] _
    refine jr_iload rfl rfl ?_
    refine jr_if_lt rfl (fun c1RephasDue => ?_) (fun c1RephasDue => ?_)
    · refine jr_ic rfl ?_
      refine jr_zret rfl rfl rfl (Nat.zero_le _) (Nat.zero_le _) ?_
      refine jr_if_eq rfl (fun _ => ?_) (fun z => absurd (by decide) z)
      refine jr_ic rfl ?_
      refine jr_iret rfl rfl (Nat.zero_le _) (Nat.zero_le _) ?_
      show jx_W (jm_MD_span, d + 40, 0, 0, false, 1, _) _ 0 0 0 [some _, some _, some _, none, none, none, none, none] [] _
      refine jr_aload rfl rfl ?_
      refine jr_iload rfl rfl ?_
      refine jr_cv1 (mc' := 0) (ms' := 0) rfl jm_MD_isDue_n jm_MD_isDue_f rfl rfl rfl rfl rfl rfl rfl (Nat.zero_le _) (Nat.zero_le _) ?_
      show jx_W (jm_MD_isDue, _, _, _, _, _, _) _ 0 0 0 [some _, some _] [] _
      refine jr_iload rfl rfl ?_
      refine jr_ic rfl ?_
      refine jr_aload rfl rfl ?_
      refine jr_cv0 (mc' := 0) (ms' := 0) rfl jm_MD_dueMany_n jm_MD_dueMany_f rfl rfl rfl rfl rfl rfl rfl (Nat.zero_le _) (Nat.zero_le _) ?_
      show jx_W (jm_MD_dueMany, _, _, _, _, _, _) _ 0 0 0 [some _] [] _
      refine jr_aload rfl rfl ?_
      refine jr_getR rfl rfl rfl rfl (Or.inl rfl) ?_
      refine jr_aload rfl rfl ?_
      refine jr_getI rfl rfl ?_
      refine jr_iald (len := 2) rfl rfl hw.1 (by omega) ?_
      refine jr_iret rfl rfl (Nat.zero_le _) (Nat.zero_le _) ?_
      refine jr_ic rfl ?_
      refine jr_isub rfl ?_
      refine jr_cs3 (mc' := 0) (ms' := 0) rfl jm_MD_isIn_n jm_MD_isIn_f rfl rfl rfl rfl rfl (Nat.zero_le _) (Nat.zero_le _) ?_
      show jx_W (jm_MD_isIn, _, _, _, _, _, _) _ 0 0 0 [some _, some _, some _] [] _
      refine jr_iload rfl rfl ?_
      refine jr_iload rfl rfl ?_
      refine jr_icmp_lt rfl (fun m2MDisIn => ?_) (fun m2MDisIn => ?_)
      · refine jr_ic rfl ?_
        refine jr_zret rfl rfl rfl (Nat.zero_le _) (Nat.zero_le _) ?_
        refine jr_zret rfl rfl rfl (Nat.zero_le _) (Nat.zero_le _) ?_
        refine jr_if_eq rfl (fun _ => ?_) (fun z => absurd (by decide) z)
        refine jr_ic rfl ?_
        refine jr_iret rfl rfl (Nat.zero_le _) (Nat.zero_le _) ?_
        first
          | exact ⟨rfl, hRel0⟩
          | (exfalso; omega)
          | (exfalso; simp (disch := omega) only [Int32.lt_iff_toInt_lt, Int32.le_iff_toInt_le, ← Int32.toInt_inj, Int32.reduceToInt, nI_toInt] at c1RephasDue m2MDisIn; done)
          | (exfalso; simp (disch := omega) only [Int32.lt_iff_toInt_lt, Int32.le_iff_toInt_le, ← Int32.toInt_inj, Int32.reduceToInt, nI_toInt] at c1RephasDue m2MDisIn; omega)
      · refine jr_iload rfl rfl ?_
        refine jr_iload rfl rfl ?_
        refine jr_icmp_gt rfl (fun m5MDisIn => ?_) (fun m5MDisIn => ?_)
        · refine jr_ic rfl ?_
          refine jr_zret rfl rfl rfl (Nat.zero_le _) (Nat.zero_le _) ?_
          refine jr_zret rfl rfl rfl (Nat.zero_le _) (Nat.zero_le _) ?_
          refine jr_if_eq rfl (fun _ => ?_) (fun z => absurd (by decide) z)
          refine jr_ic rfl ?_
          refine jr_iret rfl rfl (Nat.zero_le _) (Nat.zero_le _) ?_
          first
            | exact ⟨rfl, hRel0⟩
            | (exfalso; omega)
            | (exfalso; simp (disch := omega) only [Int32.lt_iff_toInt_lt, Int32.le_iff_toInt_le, ← Int32.toInt_inj, Int32.reduceToInt, nI_toInt] at c1RephasDue m2MDisIn m5MDisIn; done)
            | (exfalso; simp (disch := omega) only [Int32.lt_iff_toInt_lt, Int32.le_iff_toInt_le, ← Int32.toInt_inj, Int32.reduceToInt, nI_toInt] at c1RephasDue m2MDisIn m5MDisIn; omega)
        · refine jr_ic rfl ?_
          refine jr_goto rfl ?_
          refine jr_zret rfl rfl rfl (Nat.zero_le _) (Nat.zero_le _) ?_
          refine jr_zret rfl rfl rfl (Nat.zero_le _) (Nat.zero_le _) ?_
          refine jr_if_eq rfl (fun z => absurd z (by decide)) (fun _ => ?_)
          refine jr_aload rfl rfl ?_
          refine jr_iload rfl rfl ?_
          refine jr_cv1 (mc' := 0) (ms' := 0) rfl jm_MD_isForgiven_n jm_MD_isForgiven_f rfl rfl rfl rfl rfl rfl rfl (Nat.zero_le _) (Nat.zero_le _) ?_
          show jx_W (jm_MD_isForgiven, _, _, _, _, _, _) _ 0 0 0 [some _, some _] [] _
          refine jr_aload rfl rfl ?_
          refine jr_getR rfl rfl rfl rfl (Or.inl rfl) ?_
          refine jr_ic rfl ?_
          refine jr_iald (len := 337) rfl rfl (show _ = nI 36 from rfl) (by decide) ?_
          refine jr_iload rfl rfl ?_
          refine jr_ishr rfl ?_
          refine jr_ic rfl ?_
          refine jr_iand rfl ?_
          refine jr_ic rfl ?_
          refine jr_icmp_ne rfl (fun m9MDisForgiven => ?_) (fun m9MDisForgiven => ?_)
          · refine jr_ic rfl ?_
            refine jr_zret rfl rfl rfl (Nat.zero_le _) (Nat.zero_le _) ?_
            refine jr_if_ne rfl (fun z => absurd (by decide) z) (fun _ => ?_)
            refine jr_iload rfl rfl ?_
            refine jr_ic rfl ?_
            refine jr_ic rfl ?_
            refine jr_cs3 (mc' := 0) (ms' := 0) rfl jm_MD_isIn_n jm_MD_isIn_f rfl rfl rfl rfl rfl (Nat.zero_le _) (Nat.zero_le _) ?_
            show jx_W (jm_MD_isIn, _, _, _, _, _, _) _ 0 0 0 [some _, some _, some _] [] _
            refine jr_iload rfl rfl ?_
            refine jr_iload rfl rfl ?_
            refine jr_icmp_lt rfl (fun z => absurd z (by decide)) (fun _ => ?_)
            refine jr_iload rfl rfl ?_
            refine jr_iload rfl rfl ?_
            refine jr_icmp_gt rfl (fun z => absurd z (by decide)) (fun _ => ?_)
            refine jr_ic rfl ?_
            refine jr_goto rfl ?_
            refine jr_zret rfl rfl rfl (Nat.zero_le _) (Nat.zero_le _) ?_
            refine jr_if_ne rfl (fun _ => ?_) (fun z => absurd z (by decide))
            first
              | (exfalso; omega)
              | (exfalso; simp (disch := omega) only [Int32.lt_iff_toInt_lt, Int32.le_iff_toInt_le, ← Int32.toInt_inj, Int32.reduceToInt, nI_toInt] at c1RephasDue m2MDisIn m5MDisIn m9MDisForgiven; done)
              | (exfalso; simp (disch := omega) only [Int32.lt_iff_toInt_lt, Int32.le_iff_toInt_le, ← Int32.toInt_inj, Int32.reduceToInt, nI_toInt] at c1RephasDue m2MDisIn m5MDisIn m9MDisForgiven; omega)
          · refine jr_ic rfl ?_
            refine jr_goto rfl ?_
            refine jr_zret rfl rfl rfl (Nat.zero_le _) (Nat.zero_le _) ?_
            refine jr_if_ne rfl (fun _ => ?_) (fun z => absurd z (by decide))
            refine jr_ic rfl ?_
            refine jr_iret rfl rfl (Nat.zero_le _) (Nat.zero_le _) ?_
            first
              | exact ⟨rfl, hRel0⟩
              | (exfalso; omega)
              | (exfalso; simp (disch := omega) only [Int32.lt_iff_toInt_lt, Int32.le_iff_toInt_le, ← Int32.toInt_inj, Int32.reduceToInt, nI_toInt] at c1RephasDue m2MDisIn m5MDisIn m9MDisForgiven; done)
              | (exfalso; simp (disch := omega) only [Int32.lt_iff_toInt_lt, Int32.le_iff_toInt_le, ← Int32.toInt_inj, Int32.reduceToInt, nI_toInt] at c1RephasDue m2MDisIn m5MDisIn m9MDisForgiven; omega)
    · refine jr_iload rfl rfl ?_
      refine jr_aload rfl rfl ?_
      refine jr_getI rfl rfl ?_
      refine jr_icmp_ge rfl (fun c5RephasDue => ?_) (fun c5RephasDue => ?_)
      · refine jr_ic rfl ?_
        refine jr_zret rfl rfl rfl (Nat.zero_le _) (Nat.zero_le _) ?_
        refine jr_if_eq rfl (fun _ => ?_) (fun z => absurd (by decide) z)
        refine jr_ic rfl ?_
        refine jr_iret rfl rfl (Nat.zero_le _) (Nat.zero_le _) ?_
        show jx_W (jm_MD_span, d + 40, 0, 0, false, 1, _) _ 0 0 0 [some _, some _, some _, none, none, none, none, none] [] _
        refine jr_aload rfl rfl ?_
        refine jr_iload rfl rfl ?_
        refine jr_cv1 (mc' := 0) (ms' := 0) rfl jm_MD_isDue_n jm_MD_isDue_f rfl rfl rfl rfl rfl rfl rfl (Nat.zero_le _) (Nat.zero_le _) ?_
        show jx_W (jm_MD_isDue, _, _, _, _, _, _) _ 0 0 0 [some _, some _] [] _
        refine jr_iload rfl rfl ?_
        refine jr_ic rfl ?_
        refine jr_aload rfl rfl ?_
        refine jr_cv0 (mc' := 0) (ms' := 0) rfl jm_MD_dueMany_n jm_MD_dueMany_f rfl rfl rfl rfl rfl rfl rfl (Nat.zero_le _) (Nat.zero_le _) ?_
        show jx_W (jm_MD_dueMany, _, _, _, _, _, _) _ 0 0 0 [some _] [] _
        refine jr_aload rfl rfl ?_
        refine jr_getR rfl rfl rfl rfl (Or.inl rfl) ?_
        refine jr_aload rfl rfl ?_
        refine jr_getI rfl rfl ?_
        refine jr_iald (len := 2) rfl rfl hw.1 (by omega) ?_
        refine jr_iret rfl rfl (Nat.zero_le _) (Nat.zero_le _) ?_
        refine jr_ic rfl ?_
        refine jr_isub rfl ?_
        refine jr_cs3 (mc' := 0) (ms' := 0) rfl jm_MD_isIn_n jm_MD_isIn_f rfl rfl rfl rfl rfl (Nat.zero_le _) (Nat.zero_le _) ?_
        show jx_W (jm_MD_isIn, _, _, _, _, _, _) _ 0 0 0 [some _, some _, some _] [] _
        refine jr_iload rfl rfl ?_
        refine jr_iload rfl rfl ?_
        refine jr_icmp_lt rfl (fun m2MDisIn => ?_) (fun m2MDisIn => ?_)
        · refine jr_ic rfl ?_
          refine jr_zret rfl rfl rfl (Nat.zero_le _) (Nat.zero_le _) ?_
          refine jr_zret rfl rfl rfl (Nat.zero_le _) (Nat.zero_le _) ?_
          refine jr_if_eq rfl (fun _ => ?_) (fun z => absurd (by decide) z)
          refine jr_ic rfl ?_
          refine jr_iret rfl rfl (Nat.zero_le _) (Nat.zero_le _) ?_
          first
            | exact ⟨rfl, hRel0⟩
            | (exfalso; omega)
            | (exfalso; simp (disch := omega) only [Int32.lt_iff_toInt_lt, Int32.le_iff_toInt_le, ← Int32.toInt_inj, Int32.reduceToInt, nI_toInt] at c1RephasDue c5RephasDue m2MDisIn; done)
            | (exfalso; simp (disch := omega) only [Int32.lt_iff_toInt_lt, Int32.le_iff_toInt_le, ← Int32.toInt_inj, Int32.reduceToInt, nI_toInt] at c1RephasDue c5RephasDue m2MDisIn; omega)
        · refine jr_iload rfl rfl ?_
          refine jr_iload rfl rfl ?_
          refine jr_icmp_gt rfl (fun m5MDisIn => ?_) (fun m5MDisIn => ?_)
          · refine jr_ic rfl ?_
            refine jr_zret rfl rfl rfl (Nat.zero_le _) (Nat.zero_le _) ?_
            refine jr_zret rfl rfl rfl (Nat.zero_le _) (Nat.zero_le _) ?_
            refine jr_if_eq rfl (fun _ => ?_) (fun z => absurd (by decide) z)
            refine jr_ic rfl ?_
            refine jr_iret rfl rfl (Nat.zero_le _) (Nat.zero_le _) ?_
            first
              | exact ⟨rfl, hRel0⟩
              | (exfalso; omega)
              | (exfalso; simp (disch := omega) only [Int32.lt_iff_toInt_lt, Int32.le_iff_toInt_le, ← Int32.toInt_inj, Int32.reduceToInt, nI_toInt] at c1RephasDue c5RephasDue m2MDisIn m5MDisIn; done)
              | (exfalso; simp (disch := omega) only [Int32.lt_iff_toInt_lt, Int32.le_iff_toInt_le, ← Int32.toInt_inj, Int32.reduceToInt, nI_toInt] at c1RephasDue c5RephasDue m2MDisIn m5MDisIn; omega)
          · refine jr_ic rfl ?_
            refine jr_goto rfl ?_
            refine jr_zret rfl rfl rfl (Nat.zero_le _) (Nat.zero_le _) ?_
            refine jr_zret rfl rfl rfl (Nat.zero_le _) (Nat.zero_le _) ?_
            refine jr_if_eq rfl (fun z => absurd z (by decide)) (fun _ => ?_)
            refine jr_aload rfl rfl ?_
            refine jr_iload rfl rfl ?_
            refine jr_cv1 (mc' := 0) (ms' := 0) rfl jm_MD_isForgiven_n jm_MD_isForgiven_f rfl rfl rfl rfl rfl rfl rfl (Nat.zero_le _) (Nat.zero_le _) ?_
            show jx_W (jm_MD_isForgiven, _, _, _, _, _, _) _ 0 0 0 [some _, some _] [] _
            refine jr_aload rfl rfl ?_
            refine jr_getR rfl rfl rfl rfl (Or.inl rfl) ?_
            refine jr_ic rfl ?_
            refine jr_iald (len := 337) rfl rfl (show _ = nI 36 from rfl) (by decide) ?_
            refine jr_iload rfl rfl ?_
            refine jr_ishr rfl ?_
            refine jr_ic rfl ?_
            refine jr_iand rfl ?_
            refine jr_ic rfl ?_
            refine jr_icmp_ne rfl (fun m9MDisForgiven => ?_) (fun m9MDisForgiven => ?_)
            · refine jr_ic rfl ?_
              refine jr_zret rfl rfl rfl (Nat.zero_le _) (Nat.zero_le _) ?_
              refine jr_if_ne rfl (fun z => absurd (by decide) z) (fun _ => ?_)
              refine jr_iload rfl rfl ?_
              refine jr_ic rfl ?_
              refine jr_ic rfl ?_
              refine jr_cs3 (mc' := 0) (ms' := 0) rfl jm_MD_isIn_n jm_MD_isIn_f rfl rfl rfl rfl rfl (Nat.zero_le _) (Nat.zero_le _) ?_
              show jx_W (jm_MD_isIn, _, _, _, _, _, _) _ 0 0 0 [some _, some _, some _] [] _
              refine jr_iload rfl rfl ?_
              refine jr_iload rfl rfl ?_
              refine jr_icmp_lt rfl (fun z => absurd z (by decide)) (fun _ => ?_)
              refine jr_iload rfl rfl ?_
              refine jr_iload rfl rfl ?_
              refine jr_icmp_gt rfl (fun z => absurd z (by decide)) (fun _ => ?_)
              refine jr_ic rfl ?_
              refine jr_goto rfl ?_
              refine jr_zret rfl rfl rfl (Nat.zero_le _) (Nat.zero_le _) ?_
              refine jr_if_ne rfl (fun _ => ?_) (fun z => absurd z (by decide))
              first
                | (exfalso; omega)
                | (exfalso; simp (disch := omega) only [Int32.lt_iff_toInt_lt, Int32.le_iff_toInt_le, ← Int32.toInt_inj, Int32.reduceToInt, nI_toInt] at c1RephasDue c5RephasDue m2MDisIn m5MDisIn m9MDisForgiven; done)
                | (exfalso; simp (disch := omega) only [Int32.lt_iff_toInt_lt, Int32.le_iff_toInt_le, ← Int32.toInt_inj, Int32.reduceToInt, nI_toInt] at c1RephasDue c5RephasDue m2MDisIn m5MDisIn m9MDisForgiven; omega)
            · refine jr_ic rfl ?_
              refine jr_goto rfl ?_
              refine jr_zret rfl rfl rfl (Nat.zero_le _) (Nat.zero_le _) ?_
              refine jr_if_ne rfl (fun _ => ?_) (fun z => absurd z (by decide))
              refine jr_ic rfl ?_
              refine jr_iret rfl rfl (Nat.zero_le _) (Nat.zero_le _) ?_
              first
                | exact ⟨rfl, hRel0⟩
                | (exfalso; omega)
                | (exfalso; simp (disch := omega) only [Int32.lt_iff_toInt_lt, Int32.le_iff_toInt_le, ← Int32.toInt_inj, Int32.reduceToInt, nI_toInt] at c1RephasDue c5RephasDue m2MDisIn m5MDisIn m9MDisForgiven; done)
                | (exfalso; simp (disch := omega) only [Int32.lt_iff_toInt_lt, Int32.le_iff_toInt_le, ← Int32.toInt_inj, Int32.reduceToInt, nI_toInt] at c1RephasDue c5RephasDue m2MDisIn m5MDisIn m9MDisForgiven; omega)
      · refine jr_ic rfl ?_
        refine jr_goto rfl ?_
        refine jr_zret rfl rfl rfl (Nat.zero_le _) (Nat.zero_le _) ?_
        refine jr_if_eq rfl (fun z => absurd z (by decide)) (fun _ => ?_)
        refine jr_aload rfl rfl ?_
        refine jr_getR rfl rfl rfl rfl (Or.inl rfl) ?_
        refine jr_getR rfl rfl rfl rfl (Or.inl rfl) ?_
        refine jr_iload rfl rfl ?_
        first
          | (exfalso; omega)
          | (exfalso; simp (disch := omega) only [Int32.lt_iff_toInt_lt, Int32.le_iff_toInt_le, ← Int32.toInt_inj, Int32.reduceToInt, nI_toInt] at c1RephasDue c5RephasDue; done)
          | (exfalso; simp (disch := omega) only [Int32.lt_iff_toInt_lt, Int32.le_iff_toInt_le, ← Int32.toInt_inj, Int32.reduceToInt, nI_toInt] at c1RephasDue c5RephasDue; omega)

set_option maxHeartbeats 800000 in
set_option maxRecDepth 100000 in
theorem pd_span_2 {d : Nat} {hc hm : jx_H} {x : Int32} (hRel : jz_Rel hc hm) : jx_Ev jm_JV_span (d + 40) 0 0 false 0 [jv_r 10 0, jv_i x, jv_i 2] hc (fun r hc' => jx_Ev jm_MD_span (d + 40) 0 0 false 1 [jv_r 11 0, jv_i x, jv_i 2] hm (fun r' hm' => r = r' ∧ jz_Rel hc' hm')) := by
  have hRel0 := hRel
  obtain ⟨b, r, ⟨hw, hG, hr2, hto, hsp, hR, hA, hL⟩, hTa, hFa, hLy, hTi, hLe, hBo, hAc, hWo⟩ := hRel
  have hb2 := hw.2.1
  have hnd := hw.2.2.1.2.2.1
  have hnd5 := hnd.2
  have kd1 : (jh_I hc 7 r 5).toInt = (jz_nd hm b : Int) := by rw [hR.2.2.1]; exact (congrArg Int32.toInt hnd.1).trans (nI_toInt (by omega))
  have kd2 : (jh_I hm 68 0 b).toInt = (jz_nd hm b : Int) := (congrArg Int32.toInt hnd.1).trans (nI_toInt (by omega))
  have kd3 : (jh_I hm 68 0 b - 1).toInt = (jz_nd hm b : Int) - 1 := by rw [Int32.toInt_sub, kd2, show (1 : Int32).toInt = 1 from rfl]; exact jn_sm (by omega) (by omega)
  rcases nI_dec x (jz_nd hm b) (by omega) with ⟨i, rfl, hi, hi2⟩ | hi
  · have hnm := hw.2.2.1.1
    have hi12 : i < 12 := by omega
    have e3 := (hA.2.2.2.2 i (by omega)).2.2
    have e4 := jy_s01 (m := jh_I hm 98 0 36) (l := i) (by omega)
    obtain ⟨px, py, z, u, M, d1, d2, d3, d4, d5, d6, d7, d8, d9, d10, d11, d12, d13, d14⟩ := hw.2.2.1.2.2.2.2.1 i hi
    obtain ⟨f, t, hf, ht, hft, ht31⟩ := hw.2.2.1.2.2.2.1 M d13
    have hmo : ¬ jC hm b 0 0 = 0 := fun z0 => by
      have h1 := jz_gi (show jC hm b 0 0 = nI (jz_nm hm b) from hnm.1) (by omega)
      rw [z0] at h1
      have h0 : (0 : Int32).toInt = 0 := rfl
      omega
    obtain ⟨m0, hm0, hml⟩ := jz_mo hw hmo
    have hd := hR.2.2.2.2.2.1 i hi
    obtain ⟨lt, hpd⟩ : ∃ lt : Bool, ∀ l, l ≤ 40 → jw_paid (jC hm b) i (nI l) = nI (jw_pn lt u l) := by
      refine ⟨decide (¬ jC hm b 11 i = 0), fun l hl => ?_⟩
      unfold jw_paid jw_pn
      rw [d4]
      by_cases e : nI l < nI u
      · rw [if_pos e, if_pos (jn_lt e (by omega) (by omega))]
        by_cases g : jC hm b 11 i = 0
        · rw [if_pos g, decide_eq_false (show ¬ ¬ jC hm b 11 i = 0 from fun z => z g)]; rfl
        · rw [if_neg g, decide_eq_true g]; rfl
      · rw [if_neg e, if_neg (by have := jn_nlt e (by omega) (by omega); omega)]
    have hpt := @jw_pn_b lt u t d12 (by omega)
    have hpf := @jw_pn_b lt u f d12 (by omega)
    show jx_W (jm_JV_span, d + 40, 0, 0, false, 0, _) _ 0 0 0 [some (jv_r 10 0), some (jv_i (nI i)), some (jv_i 2)] [] _
    refine jr_aload rfl rfl ?_
    refine jr_getM rfl rfl rfl rfl hto ?_
    refine jr_iload rfl rfl ?_
    refine jr_cv1 (mc' := 0) (ms' := 0) rfl jm_Rep_hasDue_n jm_Rep_hasDue_f rfl rfl rfl rfl rfl rfl rfl (Nat.zero_le _) (Nat.zero_le _) ?_
    show jx_W (jm_Rep_hasDue, _, _, _, _, _, _) _ 0 0 0 [some _, some _] [] _
    refine jr_iload rfl rfl ?_
    refine jr_if_lt rfl (fun c1RephasDue => ?_) (fun c1RephasDue => ?_)
    · refine jr_ic rfl ?_
      refine jr_zret rfl rfl rfl (Nat.zero_le _) (Nat.zero_le _) ?_
      refine jr_if_eq rfl (fun _ => ?_) (fun z => absurd (by decide) z)
      refine jr_ic rfl ?_
      refine jr_iret rfl rfl (Nat.zero_le _) (Nat.zero_le _) ?_
      show jx_W (jm_MD_span, d + 40, 0, 0, false, 1, _) _ 0 0 0 [some _, some _, some _, none, none, none, none, none] [] _
      refine jr_aload rfl rfl ?_
      refine jr_iload rfl rfl ?_
      refine jr_cv1 (mc' := 0) (ms' := 0) rfl jm_MD_isDue_n jm_MD_isDue_f rfl rfl rfl rfl rfl rfl rfl (Nat.zero_le _) (Nat.zero_le _) ?_
      show jx_W (jm_MD_isDue, _, _, _, _, _, _) _ 0 0 0 [some _, some _] [] _
      refine jr_iload rfl rfl ?_
      refine jr_ic rfl ?_
      refine jr_aload rfl rfl ?_
      refine jr_cv0 (mc' := 0) (ms' := 0) rfl jm_MD_dueMany_n jm_MD_dueMany_f rfl rfl rfl rfl rfl rfl rfl (Nat.zero_le _) (Nat.zero_le _) ?_
      show jx_W (jm_MD_dueMany, _, _, _, _, _, _) _ 0 0 0 [some _] [] _
      refine jr_aload rfl rfl ?_
      refine jr_getR rfl rfl rfl rfl (Or.inl rfl) ?_
      refine jr_aload rfl rfl ?_
      refine jr_getI rfl rfl ?_
      refine jr_iald (len := 2) rfl rfl hw.1 (by omega) ?_
      refine jr_iret rfl rfl (Nat.zero_le _) (Nat.zero_le _) ?_
      refine jr_ic rfl ?_
      refine jr_isub rfl ?_
      refine jr_cs3 (mc' := 0) (ms' := 0) rfl jm_MD_isIn_n jm_MD_isIn_f rfl rfl rfl rfl rfl (Nat.zero_le _) (Nat.zero_le _) ?_
      show jx_W (jm_MD_isIn, _, _, _, _, _, _) _ 0 0 0 [some _, some _, some _] [] _
      refine jr_iload rfl rfl ?_
      refine jr_iload rfl rfl ?_
      refine jr_icmp_lt rfl (fun m2MDisIn => ?_) (fun m2MDisIn => ?_)
      · refine jr_ic rfl ?_
        refine jr_zret rfl rfl rfl (Nat.zero_le _) (Nat.zero_le _) ?_
        refine jr_zret rfl rfl rfl (Nat.zero_le _) (Nat.zero_le _) ?_
        refine jr_if_eq rfl (fun _ => ?_) (fun z => absurd (by decide) z)
        refine jr_ic rfl ?_
        refine jr_iret rfl rfl (Nat.zero_le _) (Nat.zero_le _) ?_
        first
          | exact ⟨rfl, hRel0⟩
          | (exfalso; omega)
          | (exfalso; simp (disch := omega) only [Int32.lt_iff_toInt_lt, Int32.le_iff_toInt_le, ← Int32.toInt_inj, Int32.reduceToInt, nI_toInt] at c1RephasDue m2MDisIn; done)
          | (exfalso; simp (disch := omega) only [Int32.lt_iff_toInt_lt, Int32.le_iff_toInt_le, ← Int32.toInt_inj, Int32.reduceToInt, nI_toInt] at c1RephasDue m2MDisIn; omega)
      · refine jr_iload rfl rfl ?_
        refine jr_iload rfl rfl ?_
        refine jr_icmp_gt rfl (fun m5MDisIn => ?_) (fun m5MDisIn => ?_)
        · refine jr_ic rfl ?_
          refine jr_zret rfl rfl rfl (Nat.zero_le _) (Nat.zero_le _) ?_
          refine jr_zret rfl rfl rfl (Nat.zero_le _) (Nat.zero_le _) ?_
          refine jr_if_eq rfl (fun _ => ?_) (fun z => absurd (by decide) z)
          refine jr_ic rfl ?_
          refine jr_iret rfl rfl (Nat.zero_le _) (Nat.zero_le _) ?_
          first
            | exact ⟨rfl, hRel0⟩
            | (exfalso; omega)
            | (exfalso; simp (disch := omega) only [Int32.lt_iff_toInt_lt, Int32.le_iff_toInt_le, ← Int32.toInt_inj, Int32.reduceToInt, nI_toInt] at c1RephasDue m2MDisIn m5MDisIn; done)
            | (exfalso; simp (disch := omega) only [Int32.lt_iff_toInt_lt, Int32.le_iff_toInt_le, ← Int32.toInt_inj, Int32.reduceToInt, nI_toInt] at c1RephasDue m2MDisIn m5MDisIn; omega)
        · refine jr_ic rfl ?_
          refine jr_goto rfl ?_
          refine jr_zret rfl rfl rfl (Nat.zero_le _) (Nat.zero_le _) ?_
          refine jr_zret rfl rfl rfl (Nat.zero_le _) (Nat.zero_le _) ?_
          refine jr_if_eq rfl (fun z => absurd z (by decide)) (fun _ => ?_)
          refine jr_aload rfl rfl ?_
          refine jr_iload rfl rfl ?_
          refine jr_cv1 (mc' := 0) (ms' := 0) rfl jm_MD_isForgiven_n jm_MD_isForgiven_f rfl rfl rfl rfl rfl rfl rfl (Nat.zero_le _) (Nat.zero_le _) ?_
          show jx_W (jm_MD_isForgiven, _, _, _, _, _, _) _ 0 0 0 [some _, some _] [] _
          refine jr_aload rfl rfl ?_
          refine jr_getR rfl rfl rfl rfl (Or.inl rfl) ?_
          refine jr_ic rfl ?_
          refine jr_iald (len := 337) rfl rfl (show _ = nI 36 from rfl) (by decide) ?_
          refine jr_iload rfl rfl ?_
          refine jr_ishr rfl ?_
          refine jr_ic rfl ?_
          refine jr_iand rfl ?_
          refine jr_ic rfl ?_
          refine jr_icmp_ne rfl (fun m9MDisForgiven => ?_) (fun m9MDisForgiven => ?_)
          · refine jr_ic rfl ?_
            refine jr_zret rfl rfl rfl (Nat.zero_le _) (Nat.zero_le _) ?_
            refine jr_if_ne rfl (fun z => absurd (by decide) z) (fun _ => ?_)
            refine jr_iload rfl rfl ?_
            refine jr_ic rfl ?_
            refine jr_ic rfl ?_
            refine jr_cs3 (mc' := 0) (ms' := 0) rfl jm_MD_isIn_n jm_MD_isIn_f rfl rfl rfl rfl rfl (Nat.zero_le _) (Nat.zero_le _) ?_
            show jx_W (jm_MD_isIn, _, _, _, _, _, _) _ 0 0 0 [some _, some _, some _] [] _
            refine jr_iload rfl rfl ?_
            refine jr_iload rfl rfl ?_
            refine jr_icmp_lt rfl (fun z => absurd z (by decide)) (fun _ => ?_)
            refine jr_iload rfl rfl ?_
            refine jr_iload rfl rfl ?_
            refine jr_icmp_gt rfl (fun z => absurd z (by decide)) (fun _ => ?_)
            refine jr_ic rfl ?_
            refine jr_goto rfl ?_
            refine jr_zret rfl rfl rfl (Nat.zero_le _) (Nat.zero_le _) ?_
            refine jr_if_ne rfl (fun _ => ?_) (fun z => absurd z (by decide))
            refine jr_ic rfl ?_
            refine jr_aload rfl rfl ?_
            refine jr_getI rfl rfl ?_
            refine jr_imul rfl ?_
            refine jr_iload rfl rfl ?_
            refine jr_iadd rfl ?_
            refine jr_ist3 rfl rfl ?_
            refine jr_aload rfl rfl ?_
            refine jr_getR rfl rfl rfl rfl (Or.inl rfl) ?_
            refine jr_ic rfl ?_
            refine jr_aload rfl rfl ?_
            refine jr_getI rfl rfl ?_
            refine jr_imul rfl ?_
            refine jr_aload rfl rfl ?_
            refine jr_getR rfl rfl rfl rfl (Or.inl rfl) ?_
            refine jr_iload rfl rfl ?_
            refine jr_iald (len := 24) rfl rfl (jn_add (jn_mul (show _ = nI 12 from rfl) hw.1) rfl) (by omega) ?_
            rw [show jh_I hm 77 0 (12 * b + i) = nI M from d5]
            refine jr_iadd rfl ?_
            refine jr_iald (len := 12) rfl rfl (jn_add (jn_mul (show _ = nI 6 from rfl) hw.1) rfl) (by omega) ?_
            rw [show jh_I hm 70 0 (6 * b + M) = nI f from hf]
            refine jr_ist4 rfl rfl ?_
            refine jr_aload rfl rfl ?_
            refine jr_getR rfl rfl rfl rfl (Or.inl rfl) ?_
            refine jr_ic rfl ?_
            refine jr_aload rfl rfl ?_
            refine jr_getI rfl rfl ?_
            refine jr_imul rfl ?_
            refine jr_aload rfl rfl ?_
            refine jr_getR rfl rfl rfl rfl (Or.inl rfl) ?_
            refine jr_iload rfl rfl ?_
            refine jr_iald (len := 24) rfl rfl (jn_add (jn_mul (show _ = nI 12 from rfl) hw.1) rfl) (by omega) ?_
            rw [show jh_I hm 77 0 (12 * b + i) = nI M from d5]
            refine jr_iadd rfl ?_
            refine jr_iald (len := 12) rfl rfl (jn_add (jn_mul (show _ = nI 6 from rfl) hw.1) rfl) (by omega) ?_
            rw [show jh_I hm 71 0 (6 * b + M) = nI t from ht]
            refine jr_ist5 rfl rfl ?_
            refine jr_iload rfl rfl ?_
            refine jr_ic rfl ?_
            refine jr_icmp_ne rfl (fun z => absurd (by decide) z) (fun _ => ?_)
            refine jr_aload rfl rfl ?_
            refine jr_iload rfl rfl ?_
            refine jr_iload rfl rfl ?_
            refine jr_cv2 (mc' := 0) (ms' := 0) rfl jm_MD_paidOn_n jm_MD_paidOn_f rfl rfl rfl rfl rfl rfl rfl (Nat.zero_le _) (Nat.zero_le _) ?_
            refine ev_MD_paidOn (b := b) hw.1 hb2 (by omega) ?_
            rw [hpd f (by omega)]
            refine jr_if_ne rfl (fun m55 => ?_) (fun m55 => ?_)
            · refine jr_ic rfl ?_
              refine jr_iret rfl rfl (Nat.zero_le _) (Nat.zero_le _) ?_
              first
                | exact ⟨rfl, hRel0⟩
                | (exfalso; omega)
                | (exfalso; simp (disch := omega) only [Int32.lt_iff_toInt_lt, Int32.le_iff_toInt_le, ← Int32.toInt_inj, Int32.reduceToInt, nI_toInt] at c1RephasDue m2MDisIn m5MDisIn m9MDisForgiven m55; done)
                | (exfalso; simp (disch := omega) only [Int32.lt_iff_toInt_lt, Int32.le_iff_toInt_le, ← Int32.toInt_inj, Int32.reduceToInt, nI_toInt] at c1RephasDue m2MDisIn m5MDisIn m9MDisForgiven m55; omega)
            · refine jr_ic rfl ?_
              refine jr_goto rfl ?_
              refine jr_iret rfl rfl (Nat.zero_le _) (Nat.zero_le _) ?_
              first
                | exact ⟨rfl, hRel0⟩
                | (exfalso; omega)
                | (exfalso; simp (disch := omega) only [Int32.lt_iff_toInt_lt, Int32.le_iff_toInt_le, ← Int32.toInt_inj, Int32.reduceToInt, nI_toInt] at c1RephasDue m2MDisIn m5MDisIn m9MDisForgiven m55; done)
                | (exfalso; simp (disch := omega) only [Int32.lt_iff_toInt_lt, Int32.le_iff_toInt_le, ← Int32.toInt_inj, Int32.reduceToInt, nI_toInt] at c1RephasDue m2MDisIn m5MDisIn m9MDisForgiven m55; omega)
          · refine jr_ic rfl ?_
            refine jr_goto rfl ?_
            refine jr_zret rfl rfl rfl (Nat.zero_le _) (Nat.zero_le _) ?_
            refine jr_if_ne rfl (fun _ => ?_) (fun z => absurd z (by decide))
            refine jr_ic rfl ?_
            refine jr_iret rfl rfl (Nat.zero_le _) (Nat.zero_le _) ?_
            first
              | exact ⟨rfl, hRel0⟩
              | (exfalso; omega)
              | (exfalso; simp (disch := omega) only [Int32.lt_iff_toInt_lt, Int32.le_iff_toInt_le, ← Int32.toInt_inj, Int32.reduceToInt, nI_toInt] at c1RephasDue m2MDisIn m5MDisIn m9MDisForgiven; done)
              | (exfalso; simp (disch := omega) only [Int32.lt_iff_toInt_lt, Int32.le_iff_toInt_le, ← Int32.toInt_inj, Int32.reduceToInt, nI_toInt] at c1RephasDue m2MDisIn m5MDisIn m9MDisForgiven; omega)
    · refine jr_iload rfl rfl ?_
      refine jr_aload rfl rfl ?_
      refine jr_getI rfl rfl ?_
      refine jr_icmp_ge rfl (fun c5RephasDue => ?_) (fun c5RephasDue => ?_)
      · refine jr_ic rfl ?_
        refine jr_zret rfl rfl rfl (Nat.zero_le _) (Nat.zero_le _) ?_
        refine jr_if_eq rfl (fun _ => ?_) (fun z => absurd (by decide) z)
        refine jr_ic rfl ?_
        refine jr_iret rfl rfl (Nat.zero_le _) (Nat.zero_le _) ?_
        show jx_W (jm_MD_span, d + 40, 0, 0, false, 1, _) _ 0 0 0 [some _, some _, some _, none, none, none, none, none] [] _
        refine jr_aload rfl rfl ?_
        refine jr_iload rfl rfl ?_
        refine jr_cv1 (mc' := 0) (ms' := 0) rfl jm_MD_isDue_n jm_MD_isDue_f rfl rfl rfl rfl rfl rfl rfl (Nat.zero_le _) (Nat.zero_le _) ?_
        show jx_W (jm_MD_isDue, _, _, _, _, _, _) _ 0 0 0 [some _, some _] [] _
        refine jr_iload rfl rfl ?_
        refine jr_ic rfl ?_
        refine jr_aload rfl rfl ?_
        refine jr_cv0 (mc' := 0) (ms' := 0) rfl jm_MD_dueMany_n jm_MD_dueMany_f rfl rfl rfl rfl rfl rfl rfl (Nat.zero_le _) (Nat.zero_le _) ?_
        show jx_W (jm_MD_dueMany, _, _, _, _, _, _) _ 0 0 0 [some _] [] _
        refine jr_aload rfl rfl ?_
        refine jr_getR rfl rfl rfl rfl (Or.inl rfl) ?_
        refine jr_aload rfl rfl ?_
        refine jr_getI rfl rfl ?_
        refine jr_iald (len := 2) rfl rfl hw.1 (by omega) ?_
        refine jr_iret rfl rfl (Nat.zero_le _) (Nat.zero_le _) ?_
        refine jr_ic rfl ?_
        refine jr_isub rfl ?_
        refine jr_cs3 (mc' := 0) (ms' := 0) rfl jm_MD_isIn_n jm_MD_isIn_f rfl rfl rfl rfl rfl (Nat.zero_le _) (Nat.zero_le _) ?_
        show jx_W (jm_MD_isIn, _, _, _, _, _, _) _ 0 0 0 [some _, some _, some _] [] _
        refine jr_iload rfl rfl ?_
        refine jr_iload rfl rfl ?_
        refine jr_icmp_lt rfl (fun m2MDisIn => ?_) (fun m2MDisIn => ?_)
        · refine jr_ic rfl ?_
          refine jr_zret rfl rfl rfl (Nat.zero_le _) (Nat.zero_le _) ?_
          refine jr_zret rfl rfl rfl (Nat.zero_le _) (Nat.zero_le _) ?_
          refine jr_if_eq rfl (fun _ => ?_) (fun z => absurd (by decide) z)
          refine jr_ic rfl ?_
          refine jr_iret rfl rfl (Nat.zero_le _) (Nat.zero_le _) ?_
          first
            | exact ⟨rfl, hRel0⟩
            | (exfalso; omega)
            | (exfalso; simp (disch := omega) only [Int32.lt_iff_toInt_lt, Int32.le_iff_toInt_le, ← Int32.toInt_inj, Int32.reduceToInt, nI_toInt] at c1RephasDue c5RephasDue m2MDisIn; done)
            | (exfalso; simp (disch := omega) only [Int32.lt_iff_toInt_lt, Int32.le_iff_toInt_le, ← Int32.toInt_inj, Int32.reduceToInt, nI_toInt] at c1RephasDue c5RephasDue m2MDisIn; omega)
        · refine jr_iload rfl rfl ?_
          refine jr_iload rfl rfl ?_
          refine jr_icmp_gt rfl (fun m5MDisIn => ?_) (fun m5MDisIn => ?_)
          · refine jr_ic rfl ?_
            refine jr_zret rfl rfl rfl (Nat.zero_le _) (Nat.zero_le _) ?_
            refine jr_zret rfl rfl rfl (Nat.zero_le _) (Nat.zero_le _) ?_
            refine jr_if_eq rfl (fun _ => ?_) (fun z => absurd (by decide) z)
            refine jr_ic rfl ?_
            refine jr_iret rfl rfl (Nat.zero_le _) (Nat.zero_le _) ?_
            first
              | exact ⟨rfl, hRel0⟩
              | (exfalso; omega)
              | (exfalso; simp (disch := omega) only [Int32.lt_iff_toInt_lt, Int32.le_iff_toInt_le, ← Int32.toInt_inj, Int32.reduceToInt, nI_toInt] at c1RephasDue c5RephasDue m2MDisIn m5MDisIn; done)
              | (exfalso; simp (disch := omega) only [Int32.lt_iff_toInt_lt, Int32.le_iff_toInt_le, ← Int32.toInt_inj, Int32.reduceToInt, nI_toInt] at c1RephasDue c5RephasDue m2MDisIn m5MDisIn; omega)
          · refine jr_ic rfl ?_
            refine jr_goto rfl ?_
            refine jr_zret rfl rfl rfl (Nat.zero_le _) (Nat.zero_le _) ?_
            refine jr_zret rfl rfl rfl (Nat.zero_le _) (Nat.zero_le _) ?_
            refine jr_if_eq rfl (fun z => absurd z (by decide)) (fun _ => ?_)
            refine jr_aload rfl rfl ?_
            refine jr_iload rfl rfl ?_
            refine jr_cv1 (mc' := 0) (ms' := 0) rfl jm_MD_isForgiven_n jm_MD_isForgiven_f rfl rfl rfl rfl rfl rfl rfl (Nat.zero_le _) (Nat.zero_le _) ?_
            show jx_W (jm_MD_isForgiven, _, _, _, _, _, _) _ 0 0 0 [some _, some _] [] _
            refine jr_aload rfl rfl ?_
            refine jr_getR rfl rfl rfl rfl (Or.inl rfl) ?_
            refine jr_ic rfl ?_
            refine jr_iald (len := 337) rfl rfl (show _ = nI 36 from rfl) (by decide) ?_
            refine jr_iload rfl rfl ?_
            refine jr_ishr rfl ?_
            refine jr_ic rfl ?_
            refine jr_iand rfl ?_
            refine jr_ic rfl ?_
            refine jr_icmp_ne rfl (fun m9MDisForgiven => ?_) (fun m9MDisForgiven => ?_)
            · refine jr_ic rfl ?_
              refine jr_zret rfl rfl rfl (Nat.zero_le _) (Nat.zero_le _) ?_
              refine jr_if_ne rfl (fun z => absurd (by decide) z) (fun _ => ?_)
              refine jr_iload rfl rfl ?_
              refine jr_ic rfl ?_
              refine jr_ic rfl ?_
              refine jr_cs3 (mc' := 0) (ms' := 0) rfl jm_MD_isIn_n jm_MD_isIn_f rfl rfl rfl rfl rfl (Nat.zero_le _) (Nat.zero_le _) ?_
              show jx_W (jm_MD_isIn, _, _, _, _, _, _) _ 0 0 0 [some _, some _, some _] [] _
              refine jr_iload rfl rfl ?_
              refine jr_iload rfl rfl ?_
              refine jr_icmp_lt rfl (fun z => absurd z (by decide)) (fun _ => ?_)
              refine jr_iload rfl rfl ?_
              refine jr_iload rfl rfl ?_
              refine jr_icmp_gt rfl (fun z => absurd z (by decide)) (fun _ => ?_)
              refine jr_ic rfl ?_
              refine jr_goto rfl ?_
              refine jr_zret rfl rfl rfl (Nat.zero_le _) (Nat.zero_le _) ?_
              refine jr_if_ne rfl (fun _ => ?_) (fun z => absurd z (by decide))
              refine jr_ic rfl ?_
              refine jr_aload rfl rfl ?_
              refine jr_getI rfl rfl ?_
              refine jr_imul rfl ?_
              refine jr_iload rfl rfl ?_
              refine jr_iadd rfl ?_
              refine jr_ist3 rfl rfl ?_
              refine jr_aload rfl rfl ?_
              refine jr_getR rfl rfl rfl rfl (Or.inl rfl) ?_
              refine jr_ic rfl ?_
              refine jr_aload rfl rfl ?_
              refine jr_getI rfl rfl ?_
              refine jr_imul rfl ?_
              refine jr_aload rfl rfl ?_
              refine jr_getR rfl rfl rfl rfl (Or.inl rfl) ?_
              refine jr_iload rfl rfl ?_
              refine jr_iald (len := 24) rfl rfl (jn_add (jn_mul (show _ = nI 12 from rfl) hw.1) rfl) (by omega) ?_
              rw [show jh_I hm 77 0 (12 * b + i) = nI M from d5]
              refine jr_iadd rfl ?_
              refine jr_iald (len := 12) rfl rfl (jn_add (jn_mul (show _ = nI 6 from rfl) hw.1) rfl) (by omega) ?_
              rw [show jh_I hm 70 0 (6 * b + M) = nI f from hf]
              refine jr_ist4 rfl rfl ?_
              refine jr_aload rfl rfl ?_
              refine jr_getR rfl rfl rfl rfl (Or.inl rfl) ?_
              refine jr_ic rfl ?_
              refine jr_aload rfl rfl ?_
              refine jr_getI rfl rfl ?_
              refine jr_imul rfl ?_
              refine jr_aload rfl rfl ?_
              refine jr_getR rfl rfl rfl rfl (Or.inl rfl) ?_
              refine jr_iload rfl rfl ?_
              refine jr_iald (len := 24) rfl rfl (jn_add (jn_mul (show _ = nI 12 from rfl) hw.1) rfl) (by omega) ?_
              rw [show jh_I hm 77 0 (12 * b + i) = nI M from d5]
              refine jr_iadd rfl ?_
              refine jr_iald (len := 12) rfl rfl (jn_add (jn_mul (show _ = nI 6 from rfl) hw.1) rfl) (by omega) ?_
              rw [show jh_I hm 71 0 (6 * b + M) = nI t from ht]
              refine jr_ist5 rfl rfl ?_
              refine jr_iload rfl rfl ?_
              refine jr_ic rfl ?_
              refine jr_icmp_ne rfl (fun z => absurd (by decide) z) (fun _ => ?_)
              refine jr_aload rfl rfl ?_
              refine jr_iload rfl rfl ?_
              refine jr_iload rfl rfl ?_
              refine jr_cv2 (mc' := 0) (ms' := 0) rfl jm_MD_paidOn_n jm_MD_paidOn_f rfl rfl rfl rfl rfl rfl rfl (Nat.zero_le _) (Nat.zero_le _) ?_
              refine ev_MD_paidOn (b := b) hw.1 hb2 (by omega) ?_
              rw [hpd f (by omega)]
              refine jr_if_ne rfl (fun m55 => ?_) (fun m55 => ?_)
              · refine jr_ic rfl ?_
                refine jr_iret rfl rfl (Nat.zero_le _) (Nat.zero_le _) ?_
                first
                  | exact ⟨rfl, hRel0⟩
                  | (exfalso; omega)
                  | (exfalso; simp (disch := omega) only [Int32.lt_iff_toInt_lt, Int32.le_iff_toInt_le, ← Int32.toInt_inj, Int32.reduceToInt, nI_toInt] at c1RephasDue c5RephasDue m2MDisIn m5MDisIn m9MDisForgiven m55; done)
                  | (exfalso; simp (disch := omega) only [Int32.lt_iff_toInt_lt, Int32.le_iff_toInt_le, ← Int32.toInt_inj, Int32.reduceToInt, nI_toInt] at c1RephasDue c5RephasDue m2MDisIn m5MDisIn m9MDisForgiven m55; omega)
              · refine jr_ic rfl ?_
                refine jr_goto rfl ?_
                refine jr_iret rfl rfl (Nat.zero_le _) (Nat.zero_le _) ?_
                first
                  | exact ⟨rfl, hRel0⟩
                  | (exfalso; omega)
                  | (exfalso; simp (disch := omega) only [Int32.lt_iff_toInt_lt, Int32.le_iff_toInt_le, ← Int32.toInt_inj, Int32.reduceToInt, nI_toInt] at c1RephasDue c5RephasDue m2MDisIn m5MDisIn m9MDisForgiven m55; done)
                  | (exfalso; simp (disch := omega) only [Int32.lt_iff_toInt_lt, Int32.le_iff_toInt_le, ← Int32.toInt_inj, Int32.reduceToInt, nI_toInt] at c1RephasDue c5RephasDue m2MDisIn m5MDisIn m9MDisForgiven m55; omega)
            · refine jr_ic rfl ?_
              refine jr_goto rfl ?_
              refine jr_zret rfl rfl rfl (Nat.zero_le _) (Nat.zero_le _) ?_
              refine jr_if_ne rfl (fun _ => ?_) (fun z => absurd z (by decide))
              refine jr_ic rfl ?_
              refine jr_iret rfl rfl (Nat.zero_le _) (Nat.zero_le _) ?_
              first
                | exact ⟨rfl, hRel0⟩
                | (exfalso; omega)
                | (exfalso; simp (disch := omega) only [Int32.lt_iff_toInt_lt, Int32.le_iff_toInt_le, ← Int32.toInt_inj, Int32.reduceToInt, nI_toInt] at c1RephasDue c5RephasDue m2MDisIn m5MDisIn m9MDisForgiven; done)
                | (exfalso; simp (disch := omega) only [Int32.lt_iff_toInt_lt, Int32.le_iff_toInt_le, ← Int32.toInt_inj, Int32.reduceToInt, nI_toInt] at c1RephasDue c5RephasDue m2MDisIn m5MDisIn m9MDisForgiven; omega)
      · refine jr_ic rfl ?_
        refine jr_goto rfl ?_
        refine jr_zret rfl rfl rfl (Nat.zero_le _) (Nat.zero_le _) ?_
        refine jr_if_eq rfl (fun z => absurd z (by decide)) (fun _ => ?_)
        refine jr_aload rfl rfl ?_
        refine jr_getR rfl rfl rfl rfl (Or.inl rfl) ?_
        refine jr_getR rfl rfl rfl rfl (Or.inl rfl) ?_
        refine jr_iload rfl rfl ?_
        refine jr_zald (len := 12) rfl rfl rfl (by omega) ?_
        rw [show jh_I hc 36 0 i = (jh_I hm 98 0 36 >>> (nI i &&& 31)) &&& 1 from e3]
        refine jr_if_eq rfl (fun c10 => ?_) (fun c10 => ?_)
        · refine jr_iload rfl rfl ?_
          refine jr_tsw rfl ?_
          refine ⟨fun z => absurd z (by decide), fun _ => ?_⟩
          refine ⟨fun z => absurd z (by decide), fun _ => ?_⟩
          refine ⟨fun _ => ?_, fun z => absurd (by decide) z⟩
          refine jr_aload rfl rfl ?_
          refine jr_getR rfl rfl rfl rfl (Or.inl rfl) ?_
          refine jr_aload rfl rfl ?_
          refine jr_getM rfl rfl rfl rfl hto ?_
          refine jr_iload rfl rfl ?_
          refine jr_cv1 (mc' := 0) (ms' := 0) rfl jm_Rep_dueAt_n jm_Rep_dueAt_f rfl rfl rfl rfl rfl rfl rfl (Nat.zero_le _) (Nat.zero_le _) ?_
          refine ev_Rep_dueAt (by omega) ?_
          refine jr_cv1 (mc' := 0) (ms' := 0) rfl jm_Cal_canLapse_n jm_Cal_canLapse_f rfl rfl rfl rfl rfl rfl rfl (Nat.zero_le _) (Nat.zero_le _) ?_
          refine ev_lapse hw hA hR hmo hd d5 d13 hf ht hft ht31 d12 hpd hm0 hml ?_
          by_cases hz : jw_pn lt u f = 0
          · rw [if_pos hz]
            refine jr_if_eq rfl (fun z => absurd z (by decide)) (fun _ => ?_)
            refine jr_ic rfl ?_
            refine jr_goto rfl ?_
            refine jr_iret rfl rfl (Nat.zero_le _) (Nat.zero_le _) ?_
            show jx_W (jm_MD_span, d + 40, 0, 0, false, 1, _) _ 0 0 0 [some _, some _, some _, none, none, none, none, none] [] _
            refine jr_aload rfl rfl ?_
            refine jr_iload rfl rfl ?_
            refine jr_cv1 (mc' := 0) (ms' := 0) rfl jm_MD_isDue_n jm_MD_isDue_f rfl rfl rfl rfl rfl rfl rfl (Nat.zero_le _) (Nat.zero_le _) ?_
            show jx_W (jm_MD_isDue, _, _, _, _, _, _) _ 0 0 0 [some _, some _] [] _
            refine jr_iload rfl rfl ?_
            refine jr_ic rfl ?_
            refine jr_aload rfl rfl ?_
            refine jr_cv0 (mc' := 0) (ms' := 0) rfl jm_MD_dueMany_n jm_MD_dueMany_f rfl rfl rfl rfl rfl rfl rfl (Nat.zero_le _) (Nat.zero_le _) ?_
            show jx_W (jm_MD_dueMany, _, _, _, _, _, _) _ 0 0 0 [some _] [] _
            refine jr_aload rfl rfl ?_
            refine jr_getR rfl rfl rfl rfl (Or.inl rfl) ?_
            refine jr_aload rfl rfl ?_
            refine jr_getI rfl rfl ?_
            refine jr_iald (len := 2) rfl rfl hw.1 (by omega) ?_
            refine jr_iret rfl rfl (Nat.zero_le _) (Nat.zero_le _) ?_
            refine jr_ic rfl ?_
            refine jr_isub rfl ?_
            refine jr_cs3 (mc' := 0) (ms' := 0) rfl jm_MD_isIn_n jm_MD_isIn_f rfl rfl rfl rfl rfl (Nat.zero_le _) (Nat.zero_le _) ?_
            show jx_W (jm_MD_isIn, _, _, _, _, _, _) _ 0 0 0 [some _, some _, some _] [] _
            refine jr_iload rfl rfl ?_
            refine jr_iload rfl rfl ?_
            refine jr_icmp_lt rfl (fun m2MDisIn => ?_) (fun m2MDisIn => ?_)
            · refine jr_ic rfl ?_
              refine jr_zret rfl rfl rfl (Nat.zero_le _) (Nat.zero_le _) ?_
              refine jr_zret rfl rfl rfl (Nat.zero_le _) (Nat.zero_le _) ?_
              refine jr_if_eq rfl (fun _ => ?_) (fun z => absurd (by decide) z)
              refine jr_ic rfl ?_
              refine jr_iret rfl rfl (Nat.zero_le _) (Nat.zero_le _) ?_
              first
                | (exfalso; omega)
                | (exfalso; simp (disch := omega) only [Int32.lt_iff_toInt_lt, Int32.le_iff_toInt_le, ← Int32.toInt_inj, Int32.reduceToInt, nI_toInt] at c1RephasDue c5RephasDue c10 m2MDisIn; done)
                | (exfalso; simp (disch := omega) only [Int32.lt_iff_toInt_lt, Int32.le_iff_toInt_le, ← Int32.toInt_inj, Int32.reduceToInt, nI_toInt] at c1RephasDue c5RephasDue c10 m2MDisIn; omega)
            · refine jr_iload rfl rfl ?_
              refine jr_iload rfl rfl ?_
              refine jr_icmp_gt rfl (fun m5MDisIn => ?_) (fun m5MDisIn => ?_)
              · refine jr_ic rfl ?_
                refine jr_zret rfl rfl rfl (Nat.zero_le _) (Nat.zero_le _) ?_
                refine jr_zret rfl rfl rfl (Nat.zero_le _) (Nat.zero_le _) ?_
                refine jr_if_eq rfl (fun _ => ?_) (fun z => absurd (by decide) z)
                refine jr_ic rfl ?_
                refine jr_iret rfl rfl (Nat.zero_le _) (Nat.zero_le _) ?_
                first
                  | (exfalso; omega)
                  | (exfalso; simp (disch := omega) only [Int32.lt_iff_toInt_lt, Int32.le_iff_toInt_le, ← Int32.toInt_inj, Int32.reduceToInt, nI_toInt] at c1RephasDue c5RephasDue c10 m2MDisIn m5MDisIn; done)
                  | (exfalso; simp (disch := omega) only [Int32.lt_iff_toInt_lt, Int32.le_iff_toInt_le, ← Int32.toInt_inj, Int32.reduceToInt, nI_toInt] at c1RephasDue c5RephasDue c10 m2MDisIn m5MDisIn; omega)
              · refine jr_ic rfl ?_
                refine jr_goto rfl ?_
                refine jr_zret rfl rfl rfl (Nat.zero_le _) (Nat.zero_le _) ?_
                refine jr_zret rfl rfl rfl (Nat.zero_le _) (Nat.zero_le _) ?_
                refine jr_if_eq rfl (fun z => absurd z (by decide)) (fun _ => ?_)
                refine jr_aload rfl rfl ?_
                refine jr_iload rfl rfl ?_
                refine jr_cv1 (mc' := 0) (ms' := 0) rfl jm_MD_isForgiven_n jm_MD_isForgiven_f rfl rfl rfl rfl rfl rfl rfl (Nat.zero_le _) (Nat.zero_le _) ?_
                show jx_W (jm_MD_isForgiven, _, _, _, _, _, _) _ 0 0 0 [some _, some _] [] _
                refine jr_aload rfl rfl ?_
                refine jr_getR rfl rfl rfl rfl (Or.inl rfl) ?_
                refine jr_ic rfl ?_
                refine jr_iald (len := 337) rfl rfl (show _ = nI 36 from rfl) (by decide) ?_
                refine jr_iload rfl rfl ?_
                refine jr_ishr rfl ?_
                refine jr_ic rfl ?_
                refine jr_iand rfl ?_
                refine jr_ic rfl ?_
                refine jr_icmp_ne rfl (fun m9MDisForgiven => ?_) (fun m9MDisForgiven => ?_)
                · refine jr_ic rfl ?_
                  refine jr_zret rfl rfl rfl (Nat.zero_le _) (Nat.zero_le _) ?_
                  refine jr_if_ne rfl (fun z => absurd (by decide) z) (fun _ => ?_)
                  refine jr_iload rfl rfl ?_
                  refine jr_ic rfl ?_
                  refine jr_ic rfl ?_
                  refine jr_cs3 (mc' := 0) (ms' := 0) rfl jm_MD_isIn_n jm_MD_isIn_f rfl rfl rfl rfl rfl (Nat.zero_le _) (Nat.zero_le _) ?_
                  show jx_W (jm_MD_isIn, _, _, _, _, _, _) _ 0 0 0 [some _, some _, some _] [] _
                  refine jr_iload rfl rfl ?_
                  refine jr_iload rfl rfl ?_
                  refine jr_icmp_lt rfl (fun z => absurd z (by decide)) (fun _ => ?_)
                  refine jr_iload rfl rfl ?_
                  refine jr_iload rfl rfl ?_
                  refine jr_icmp_gt rfl (fun z => absurd z (by decide)) (fun _ => ?_)
                  refine jr_ic rfl ?_
                  refine jr_goto rfl ?_
                  refine jr_zret rfl rfl rfl (Nat.zero_le _) (Nat.zero_le _) ?_
                  refine jr_if_ne rfl (fun _ => ?_) (fun z => absurd z (by decide))
                  refine jr_ic rfl ?_
                  refine jr_aload rfl rfl ?_
                  refine jr_getI rfl rfl ?_
                  refine jr_imul rfl ?_
                  refine jr_iload rfl rfl ?_
                  refine jr_iadd rfl ?_
                  rw [show (12 : Int32) * jh_I hm 11 0 43 + nI i = nI (12 * b + i) from jn_add (jn_mul (show (12 : Int32) = nI 12 from rfl) hw.1) rfl]
                  refine jr_ist3 rfl rfl ?_
                  refine jr_aload rfl rfl ?_
                  refine jr_getR rfl rfl rfl rfl (Or.inl rfl) ?_
                  refine jr_ic rfl ?_
                  refine jr_aload rfl rfl ?_
                  refine jr_getI rfl rfl ?_
                  refine jr_imul rfl ?_
                  refine jr_aload rfl rfl ?_
                  refine jr_getR rfl rfl rfl rfl (Or.inl rfl) ?_
                  refine jr_iload rfl rfl ?_
                  refine jr_iald (len := 24) rfl rfl rfl (by omega) ?_
                  rw [show jh_I hm 77 0 (12 * b + i) = nI M from d5]
                  refine jr_iadd rfl ?_
                  refine jr_iald (len := 12) rfl rfl (jn_add (jn_mul (show _ = nI 6 from rfl) hw.1) rfl) (by omega) ?_
                  rw [show jh_I hm 70 0 (6 * b + M) = nI f from hf]
                  refine jr_ist4 rfl rfl ?_
                  refine jr_aload rfl rfl ?_
                  refine jr_getR rfl rfl rfl rfl (Or.inl rfl) ?_
                  refine jr_ic rfl ?_
                  refine jr_aload rfl rfl ?_
                  refine jr_getI rfl rfl ?_
                  refine jr_imul rfl ?_
                  refine jr_aload rfl rfl ?_
                  refine jr_getR rfl rfl rfl rfl (Or.inl rfl) ?_
                  refine jr_iload rfl rfl ?_
                  refine jr_iald (len := 24) rfl rfl rfl (by omega) ?_
                  rw [show jh_I hm 77 0 (12 * b + i) = nI M from d5]
                  refine jr_iadd rfl ?_
                  refine jr_iald (len := 12) rfl rfl (jn_add (jn_mul (show _ = nI 6 from rfl) hw.1) rfl) (by omega) ?_
                  rw [show jh_I hm 71 0 (6 * b + M) = nI t from ht]
                  refine jr_ist5 rfl rfl ?_
                  refine jr_iload rfl rfl ?_
                  refine jr_ic rfl ?_
                  refine jr_icmp_ne rfl (fun z => absurd (by decide) z) (fun _ => ?_)
                  refine jr_aload rfl rfl ?_
                  refine jr_iload rfl rfl ?_
                  refine jr_iload rfl rfl ?_
                  refine jr_cv2 (mc' := 0) (ms' := 0) rfl jm_MD_paidOn_n jm_MD_paidOn_f rfl rfl rfl rfl rfl rfl rfl (Nat.zero_le _) (Nat.zero_le _) ?_
                  refine ev_MD_paidOn (b := b) hw.1 hb2 (by omega) ?_
                  rw [hpd f (by omega)]
                  refine jr_if_ne rfl (fun z => absurd (show nI (jw_pn lt u f) = 0 from congrArg nI hz) z) (fun _ => ?_)
                  refine jr_ic rfl ?_
                  refine jr_goto rfl ?_
                  refine jr_iret rfl rfl (Nat.zero_le _) (Nat.zero_le _) ?_
                  exact ⟨rfl, hRel0⟩
                · refine jr_ic rfl ?_
                  refine jr_goto rfl ?_
                  refine jr_zret rfl rfl rfl (Nat.zero_le _) (Nat.zero_le _) ?_
                  refine jr_if_ne rfl (fun _ => ?_) (fun z => absurd z (by decide))
                  refine jr_ic rfl ?_
                  refine jr_iret rfl rfl (Nat.zero_le _) (Nat.zero_le _) ?_
                  first
                    | (exfalso; omega)
                    | (exfalso; simp (disch := omega) only [Int32.lt_iff_toInt_lt, Int32.le_iff_toInt_le, ← Int32.toInt_inj, Int32.reduceToInt, nI_toInt] at c1RephasDue c5RephasDue c10 m2MDisIn m5MDisIn m9MDisForgiven; done)
                    | (exfalso; simp (disch := omega) only [Int32.lt_iff_toInt_lt, Int32.le_iff_toInt_le, ← Int32.toInt_inj, Int32.reduceToInt, nI_toInt] at c1RephasDue c5RephasDue c10 m2MDisIn m5MDisIn m9MDisForgiven; omega)
          · rw [if_neg hz]
            refine jr_if_eq rfl (fun _ => ?_) (fun z => absurd (by decide) z)
            refine jr_ic rfl ?_
            refine jr_iret rfl rfl (Nat.zero_le _) (Nat.zero_le _) ?_
            show jx_W (jm_MD_span, d + 40, 0, 0, false, 1, _) _ 0 0 0 [some _, some _, some _, none, none, none, none, none] [] _
            refine jr_aload rfl rfl ?_
            refine jr_iload rfl rfl ?_
            refine jr_cv1 (mc' := 0) (ms' := 0) rfl jm_MD_isDue_n jm_MD_isDue_f rfl rfl rfl rfl rfl rfl rfl (Nat.zero_le _) (Nat.zero_le _) ?_
            show jx_W (jm_MD_isDue, _, _, _, _, _, _) _ 0 0 0 [some _, some _] [] _
            refine jr_iload rfl rfl ?_
            refine jr_ic rfl ?_
            refine jr_aload rfl rfl ?_
            refine jr_cv0 (mc' := 0) (ms' := 0) rfl jm_MD_dueMany_n jm_MD_dueMany_f rfl rfl rfl rfl rfl rfl rfl (Nat.zero_le _) (Nat.zero_le _) ?_
            show jx_W (jm_MD_dueMany, _, _, _, _, _, _) _ 0 0 0 [some _] [] _
            refine jr_aload rfl rfl ?_
            refine jr_getR rfl rfl rfl rfl (Or.inl rfl) ?_
            refine jr_aload rfl rfl ?_
            refine jr_getI rfl rfl ?_
            refine jr_iald (len := 2) rfl rfl hw.1 (by omega) ?_
            refine jr_iret rfl rfl (Nat.zero_le _) (Nat.zero_le _) ?_
            refine jr_ic rfl ?_
            refine jr_isub rfl ?_
            refine jr_cs3 (mc' := 0) (ms' := 0) rfl jm_MD_isIn_n jm_MD_isIn_f rfl rfl rfl rfl rfl (Nat.zero_le _) (Nat.zero_le _) ?_
            show jx_W (jm_MD_isIn, _, _, _, _, _, _) _ 0 0 0 [some _, some _, some _] [] _
            refine jr_iload rfl rfl ?_
            refine jr_iload rfl rfl ?_
            refine jr_icmp_lt rfl (fun m2MDisIn => ?_) (fun m2MDisIn => ?_)
            · refine jr_ic rfl ?_
              refine jr_zret rfl rfl rfl (Nat.zero_le _) (Nat.zero_le _) ?_
              refine jr_zret rfl rfl rfl (Nat.zero_le _) (Nat.zero_le _) ?_
              refine jr_if_eq rfl (fun _ => ?_) (fun z => absurd (by decide) z)
              refine jr_ic rfl ?_
              refine jr_iret rfl rfl (Nat.zero_le _) (Nat.zero_le _) ?_
              first
                | (exfalso; omega)
                | (exfalso; simp (disch := omega) only [Int32.lt_iff_toInt_lt, Int32.le_iff_toInt_le, ← Int32.toInt_inj, Int32.reduceToInt, nI_toInt] at c1RephasDue c5RephasDue c10 m2MDisIn; done)
                | (exfalso; simp (disch := omega) only [Int32.lt_iff_toInt_lt, Int32.le_iff_toInt_le, ← Int32.toInt_inj, Int32.reduceToInt, nI_toInt] at c1RephasDue c5RephasDue c10 m2MDisIn; omega)
            · refine jr_iload rfl rfl ?_
              refine jr_iload rfl rfl ?_
              refine jr_icmp_gt rfl (fun m5MDisIn => ?_) (fun m5MDisIn => ?_)
              · refine jr_ic rfl ?_
                refine jr_zret rfl rfl rfl (Nat.zero_le _) (Nat.zero_le _) ?_
                refine jr_zret rfl rfl rfl (Nat.zero_le _) (Nat.zero_le _) ?_
                refine jr_if_eq rfl (fun _ => ?_) (fun z => absurd (by decide) z)
                refine jr_ic rfl ?_
                refine jr_iret rfl rfl (Nat.zero_le _) (Nat.zero_le _) ?_
                first
                  | (exfalso; omega)
                  | (exfalso; simp (disch := omega) only [Int32.lt_iff_toInt_lt, Int32.le_iff_toInt_le, ← Int32.toInt_inj, Int32.reduceToInt, nI_toInt] at c1RephasDue c5RephasDue c10 m2MDisIn m5MDisIn; done)
                  | (exfalso; simp (disch := omega) only [Int32.lt_iff_toInt_lt, Int32.le_iff_toInt_le, ← Int32.toInt_inj, Int32.reduceToInt, nI_toInt] at c1RephasDue c5RephasDue c10 m2MDisIn m5MDisIn; omega)
              · refine jr_ic rfl ?_
                refine jr_goto rfl ?_
                refine jr_zret rfl rfl rfl (Nat.zero_le _) (Nat.zero_le _) ?_
                refine jr_zret rfl rfl rfl (Nat.zero_le _) (Nat.zero_le _) ?_
                refine jr_if_eq rfl (fun z => absurd z (by decide)) (fun _ => ?_)
                refine jr_aload rfl rfl ?_
                refine jr_iload rfl rfl ?_
                refine jr_cv1 (mc' := 0) (ms' := 0) rfl jm_MD_isForgiven_n jm_MD_isForgiven_f rfl rfl rfl rfl rfl rfl rfl (Nat.zero_le _) (Nat.zero_le _) ?_
                show jx_W (jm_MD_isForgiven, _, _, _, _, _, _) _ 0 0 0 [some _, some _] [] _
                refine jr_aload rfl rfl ?_
                refine jr_getR rfl rfl rfl rfl (Or.inl rfl) ?_
                refine jr_ic rfl ?_
                refine jr_iald (len := 337) rfl rfl (show _ = nI 36 from rfl) (by decide) ?_
                refine jr_iload rfl rfl ?_
                refine jr_ishr rfl ?_
                refine jr_ic rfl ?_
                refine jr_iand rfl ?_
                refine jr_ic rfl ?_
                refine jr_icmp_ne rfl (fun m9MDisForgiven => ?_) (fun m9MDisForgiven => ?_)
                · refine jr_ic rfl ?_
                  refine jr_zret rfl rfl rfl (Nat.zero_le _) (Nat.zero_le _) ?_
                  refine jr_if_ne rfl (fun z => absurd (by decide) z) (fun _ => ?_)
                  refine jr_iload rfl rfl ?_
                  refine jr_ic rfl ?_
                  refine jr_ic rfl ?_
                  refine jr_cs3 (mc' := 0) (ms' := 0) rfl jm_MD_isIn_n jm_MD_isIn_f rfl rfl rfl rfl rfl (Nat.zero_le _) (Nat.zero_le _) ?_
                  show jx_W (jm_MD_isIn, _, _, _, _, _, _) _ 0 0 0 [some _, some _, some _] [] _
                  refine jr_iload rfl rfl ?_
                  refine jr_iload rfl rfl ?_
                  refine jr_icmp_lt rfl (fun z => absurd z (by decide)) (fun _ => ?_)
                  refine jr_iload rfl rfl ?_
                  refine jr_iload rfl rfl ?_
                  refine jr_icmp_gt rfl (fun z => absurd z (by decide)) (fun _ => ?_)
                  refine jr_ic rfl ?_
                  refine jr_goto rfl ?_
                  refine jr_zret rfl rfl rfl (Nat.zero_le _) (Nat.zero_le _) ?_
                  refine jr_if_ne rfl (fun _ => ?_) (fun z => absurd z (by decide))
                  refine jr_ic rfl ?_
                  refine jr_aload rfl rfl ?_
                  refine jr_getI rfl rfl ?_
                  refine jr_imul rfl ?_
                  refine jr_iload rfl rfl ?_
                  refine jr_iadd rfl ?_
                  rw [show (12 : Int32) * jh_I hm 11 0 43 + nI i = nI (12 * b + i) from jn_add (jn_mul (show (12 : Int32) = nI 12 from rfl) hw.1) rfl]
                  refine jr_ist3 rfl rfl ?_
                  refine jr_aload rfl rfl ?_
                  refine jr_getR rfl rfl rfl rfl (Or.inl rfl) ?_
                  refine jr_ic rfl ?_
                  refine jr_aload rfl rfl ?_
                  refine jr_getI rfl rfl ?_
                  refine jr_imul rfl ?_
                  refine jr_aload rfl rfl ?_
                  refine jr_getR rfl rfl rfl rfl (Or.inl rfl) ?_
                  refine jr_iload rfl rfl ?_
                  refine jr_iald (len := 24) rfl rfl rfl (by omega) ?_
                  rw [show jh_I hm 77 0 (12 * b + i) = nI M from d5]
                  refine jr_iadd rfl ?_
                  refine jr_iald (len := 12) rfl rfl (jn_add (jn_mul (show _ = nI 6 from rfl) hw.1) rfl) (by omega) ?_
                  rw [show jh_I hm 70 0 (6 * b + M) = nI f from hf]
                  refine jr_ist4 rfl rfl ?_
                  refine jr_aload rfl rfl ?_
                  refine jr_getR rfl rfl rfl rfl (Or.inl rfl) ?_
                  refine jr_ic rfl ?_
                  refine jr_aload rfl rfl ?_
                  refine jr_getI rfl rfl ?_
                  refine jr_imul rfl ?_
                  refine jr_aload rfl rfl ?_
                  refine jr_getR rfl rfl rfl rfl (Or.inl rfl) ?_
                  refine jr_iload rfl rfl ?_
                  refine jr_iald (len := 24) rfl rfl rfl (by omega) ?_
                  rw [show jh_I hm 77 0 (12 * b + i) = nI M from d5]
                  refine jr_iadd rfl ?_
                  refine jr_iald (len := 12) rfl rfl (jn_add (jn_mul (show _ = nI 6 from rfl) hw.1) rfl) (by omega) ?_
                  rw [show jh_I hm 71 0 (6 * b + M) = nI t from ht]
                  refine jr_ist5 rfl rfl ?_
                  refine jr_iload rfl rfl ?_
                  refine jr_ic rfl ?_
                  refine jr_icmp_ne rfl (fun z => absurd (by decide) z) (fun _ => ?_)
                  refine jr_aload rfl rfl ?_
                  refine jr_iload rfl rfl ?_
                  refine jr_iload rfl rfl ?_
                  refine jr_cv2 (mc' := 0) (ms' := 0) rfl jm_MD_paidOn_n jm_MD_paidOn_f rfl rfl rfl rfl rfl rfl rfl (Nat.zero_le _) (Nat.zero_le _) ?_
                  refine ev_MD_paidOn (b := b) hw.1 hb2 (by omega) ?_
                  rw [hpd f (by omega)]
                  refine jr_if_ne rfl (fun _ => ?_) (fun z => absurd z (nI_n0 hz (by omega)))
                  refine jr_ic rfl ?_
                  refine jr_iret rfl rfl (Nat.zero_le _) (Nat.zero_le _) ?_
                  exact ⟨rfl, hRel0⟩
                · refine jr_ic rfl ?_
                  refine jr_goto rfl ?_
                  refine jr_zret rfl rfl rfl (Nat.zero_le _) (Nat.zero_le _) ?_
                  refine jr_if_ne rfl (fun _ => ?_) (fun z => absurd z (by decide))
                  refine jr_ic rfl ?_
                  refine jr_iret rfl rfl (Nat.zero_le _) (Nat.zero_le _) ?_
                  first
                    | (exfalso; omega)
                    | (exfalso; simp (disch := omega) only [Int32.lt_iff_toInt_lt, Int32.le_iff_toInt_le, ← Int32.toInt_inj, Int32.reduceToInt, nI_toInt] at c1RephasDue c5RephasDue c10 m2MDisIn m5MDisIn m9MDisForgiven; done)
                    | (exfalso; simp (disch := omega) only [Int32.lt_iff_toInt_lt, Int32.le_iff_toInt_le, ← Int32.toInt_inj, Int32.reduceToInt, nI_toInt] at c1RephasDue c5RephasDue c10 m2MDisIn m5MDisIn m9MDisForgiven; omega)
        · refine jr_ic rfl ?_
          refine jr_iret rfl rfl (Nat.zero_le _) (Nat.zero_le _) ?_
          show jx_W (jm_MD_span, d + 40, 0, 0, false, 1, _) _ 0 0 0 [some _, some _, some _, none, none, none, none, none] [] _
          refine jr_aload rfl rfl ?_
          refine jr_iload rfl rfl ?_
          refine jr_cv1 (mc' := 0) (ms' := 0) rfl jm_MD_isDue_n jm_MD_isDue_f rfl rfl rfl rfl rfl rfl rfl (Nat.zero_le _) (Nat.zero_le _) ?_
          show jx_W (jm_MD_isDue, _, _, _, _, _, _) _ 0 0 0 [some _, some _] [] _
          refine jr_iload rfl rfl ?_
          refine jr_ic rfl ?_
          refine jr_aload rfl rfl ?_
          refine jr_cv0 (mc' := 0) (ms' := 0) rfl jm_MD_dueMany_n jm_MD_dueMany_f rfl rfl rfl rfl rfl rfl rfl (Nat.zero_le _) (Nat.zero_le _) ?_
          show jx_W (jm_MD_dueMany, _, _, _, _, _, _) _ 0 0 0 [some _] [] _
          refine jr_aload rfl rfl ?_
          refine jr_getR rfl rfl rfl rfl (Or.inl rfl) ?_
          refine jr_aload rfl rfl ?_
          refine jr_getI rfl rfl ?_
          refine jr_iald (len := 2) rfl rfl hw.1 (by omega) ?_
          refine jr_iret rfl rfl (Nat.zero_le _) (Nat.zero_le _) ?_
          refine jr_ic rfl ?_
          refine jr_isub rfl ?_
          refine jr_cs3 (mc' := 0) (ms' := 0) rfl jm_MD_isIn_n jm_MD_isIn_f rfl rfl rfl rfl rfl (Nat.zero_le _) (Nat.zero_le _) ?_
          show jx_W (jm_MD_isIn, _, _, _, _, _, _) _ 0 0 0 [some _, some _, some _] [] _
          refine jr_iload rfl rfl ?_
          refine jr_iload rfl rfl ?_
          refine jr_icmp_lt rfl (fun m2MDisIn => ?_) (fun m2MDisIn => ?_)
          · refine jr_ic rfl ?_
            refine jr_zret rfl rfl rfl (Nat.zero_le _) (Nat.zero_le _) ?_
            refine jr_zret rfl rfl rfl (Nat.zero_le _) (Nat.zero_le _) ?_
            refine jr_if_eq rfl (fun _ => ?_) (fun z => absurd (by decide) z)
            refine jr_ic rfl ?_
            refine jr_iret rfl rfl (Nat.zero_le _) (Nat.zero_le _) ?_
            first
              | exact ⟨rfl, hRel0⟩
              | (exfalso; omega)
              | (exfalso; simp (disch := omega) only [Int32.lt_iff_toInt_lt, Int32.le_iff_toInt_le, ← Int32.toInt_inj, Int32.reduceToInt, nI_toInt] at c1RephasDue c5RephasDue c10 m2MDisIn; done)
              | (exfalso; simp (disch := omega) only [Int32.lt_iff_toInt_lt, Int32.le_iff_toInt_le, ← Int32.toInt_inj, Int32.reduceToInt, nI_toInt] at c1RephasDue c5RephasDue c10 m2MDisIn; omega)
          · refine jr_iload rfl rfl ?_
            refine jr_iload rfl rfl ?_
            refine jr_icmp_gt rfl (fun m5MDisIn => ?_) (fun m5MDisIn => ?_)
            · refine jr_ic rfl ?_
              refine jr_zret rfl rfl rfl (Nat.zero_le _) (Nat.zero_le _) ?_
              refine jr_zret rfl rfl rfl (Nat.zero_le _) (Nat.zero_le _) ?_
              refine jr_if_eq rfl (fun _ => ?_) (fun z => absurd (by decide) z)
              refine jr_ic rfl ?_
              refine jr_iret rfl rfl (Nat.zero_le _) (Nat.zero_le _) ?_
              first
                | exact ⟨rfl, hRel0⟩
                | (exfalso; omega)
                | (exfalso; simp (disch := omega) only [Int32.lt_iff_toInt_lt, Int32.le_iff_toInt_le, ← Int32.toInt_inj, Int32.reduceToInt, nI_toInt] at c1RephasDue c5RephasDue c10 m2MDisIn m5MDisIn; done)
                | (exfalso; simp (disch := omega) only [Int32.lt_iff_toInt_lt, Int32.le_iff_toInt_le, ← Int32.toInt_inj, Int32.reduceToInt, nI_toInt] at c1RephasDue c5RephasDue c10 m2MDisIn m5MDisIn; omega)
            · refine jr_ic rfl ?_
              refine jr_goto rfl ?_
              refine jr_zret rfl rfl rfl (Nat.zero_le _) (Nat.zero_le _) ?_
              refine jr_zret rfl rfl rfl (Nat.zero_le _) (Nat.zero_le _) ?_
              refine jr_if_eq rfl (fun z => absurd z (by decide)) (fun _ => ?_)
              refine jr_aload rfl rfl ?_
              refine jr_iload rfl rfl ?_
              refine jr_cv1 (mc' := 0) (ms' := 0) rfl jm_MD_isForgiven_n jm_MD_isForgiven_f rfl rfl rfl rfl rfl rfl rfl (Nat.zero_le _) (Nat.zero_le _) ?_
              show jx_W (jm_MD_isForgiven, _, _, _, _, _, _) _ 0 0 0 [some _, some _] [] _
              refine jr_aload rfl rfl ?_
              refine jr_getR rfl rfl rfl rfl (Or.inl rfl) ?_
              refine jr_ic rfl ?_
              refine jr_iald (len := 337) rfl rfl (show _ = nI 36 from rfl) (by decide) ?_
              refine jr_iload rfl rfl ?_
              refine jr_ishr rfl ?_
              refine jr_ic rfl ?_
              refine jr_iand rfl ?_
              refine jr_ic rfl ?_
              refine jr_icmp_ne rfl (fun m9MDisForgiven => ?_) (fun m9MDisForgiven => ?_)
              · refine jr_ic rfl ?_
                refine jr_zret rfl rfl rfl (Nat.zero_le _) (Nat.zero_le _) ?_
                refine jr_if_ne rfl (fun z => absurd (by decide) z) (fun _ => ?_)
                refine jr_iload rfl rfl ?_
                refine jr_ic rfl ?_
                refine jr_ic rfl ?_
                refine jr_cs3 (mc' := 0) (ms' := 0) rfl jm_MD_isIn_n jm_MD_isIn_f rfl rfl rfl rfl rfl (Nat.zero_le _) (Nat.zero_le _) ?_
                show jx_W (jm_MD_isIn, _, _, _, _, _, _) _ 0 0 0 [some _, some _, some _] [] _
                refine jr_iload rfl rfl ?_
                refine jr_iload rfl rfl ?_
                refine jr_icmp_lt rfl (fun z => absurd z (by decide)) (fun _ => ?_)
                refine jr_iload rfl rfl ?_
                refine jr_iload rfl rfl ?_
                refine jr_icmp_gt rfl (fun z => absurd z (by decide)) (fun _ => ?_)
                refine jr_ic rfl ?_
                refine jr_goto rfl ?_
                refine jr_zret rfl rfl rfl (Nat.zero_le _) (Nat.zero_le _) ?_
                refine jr_if_ne rfl (fun _ => ?_) (fun z => absurd z (by decide))
                refine jr_ic rfl ?_
                refine jr_aload rfl rfl ?_
                refine jr_getI rfl rfl ?_
                refine jr_imul rfl ?_
                refine jr_iload rfl rfl ?_
                refine jr_iadd rfl ?_
                refine jr_ist3 rfl rfl ?_
                refine jr_aload rfl rfl ?_
                refine jr_getR rfl rfl rfl rfl (Or.inl rfl) ?_
                refine jr_ic rfl ?_
                refine jr_aload rfl rfl ?_
                refine jr_getI rfl rfl ?_
                refine jr_imul rfl ?_
                refine jr_aload rfl rfl ?_
                refine jr_getR rfl rfl rfl rfl (Or.inl rfl) ?_
                refine jr_iload rfl rfl ?_
                refine jr_iald (len := 24) rfl rfl (jn_add (jn_mul (show _ = nI 12 from rfl) hw.1) rfl) (by omega) ?_
                rw [show jh_I hm 77 0 (12 * b + i) = nI M from d5]
                refine jr_iadd rfl ?_
                refine jr_iald (len := 12) rfl rfl (jn_add (jn_mul (show _ = nI 6 from rfl) hw.1) rfl) (by omega) ?_
                rw [show jh_I hm 70 0 (6 * b + M) = nI f from hf]
                refine jr_ist4 rfl rfl ?_
                refine jr_aload rfl rfl ?_
                refine jr_getR rfl rfl rfl rfl (Or.inl rfl) ?_
                refine jr_ic rfl ?_
                refine jr_aload rfl rfl ?_
                refine jr_getI rfl rfl ?_
                refine jr_imul rfl ?_
                refine jr_aload rfl rfl ?_
                refine jr_getR rfl rfl rfl rfl (Or.inl rfl) ?_
                refine jr_iload rfl rfl ?_
                refine jr_iald (len := 24) rfl rfl (jn_add (jn_mul (show _ = nI 12 from rfl) hw.1) rfl) (by omega) ?_
                rw [show jh_I hm 77 0 (12 * b + i) = nI M from d5]
                refine jr_iadd rfl ?_
                refine jr_iald (len := 12) rfl rfl (jn_add (jn_mul (show _ = nI 6 from rfl) hw.1) rfl) (by omega) ?_
                rw [show jh_I hm 71 0 (6 * b + M) = nI t from ht]
                refine jr_ist5 rfl rfl ?_
                refine jr_iload rfl rfl ?_
                refine jr_ic rfl ?_
                refine jr_icmp_ne rfl (fun z => absurd (by decide) z) (fun _ => ?_)
                refine jr_aload rfl rfl ?_
                refine jr_iload rfl rfl ?_
                refine jr_iload rfl rfl ?_
                refine jr_cv2 (mc' := 0) (ms' := 0) rfl jm_MD_paidOn_n jm_MD_paidOn_f rfl rfl rfl rfl rfl rfl rfl (Nat.zero_le _) (Nat.zero_le _) ?_
                refine ev_MD_paidOn (b := b) hw.1 hb2 (by omega) ?_
                rw [hpd f (by omega)]
                refine jr_if_ne rfl (fun m55 => ?_) (fun m55 => ?_)
                · refine jr_ic rfl ?_
                  refine jr_iret rfl rfl (Nat.zero_le _) (Nat.zero_le _) ?_
                  first
                    | exact ⟨rfl, hRel0⟩
                    | (exfalso; omega)
                    | (exfalso; simp (disch := omega) only [Int32.lt_iff_toInt_lt, Int32.le_iff_toInt_le, ← Int32.toInt_inj, Int32.reduceToInt, nI_toInt] at c1RephasDue c5RephasDue c10 m2MDisIn m5MDisIn m9MDisForgiven m55; done)
                    | (exfalso; simp (disch := omega) only [Int32.lt_iff_toInt_lt, Int32.le_iff_toInt_le, ← Int32.toInt_inj, Int32.reduceToInt, nI_toInt] at c1RephasDue c5RephasDue c10 m2MDisIn m5MDisIn m9MDisForgiven m55; omega)
                · refine jr_ic rfl ?_
                  refine jr_goto rfl ?_
                  refine jr_iret rfl rfl (Nat.zero_le _) (Nat.zero_le _) ?_
                  first
                    | exact ⟨rfl, hRel0⟩
                    | (exfalso; omega)
                    | (exfalso; simp (disch := omega) only [Int32.lt_iff_toInt_lt, Int32.le_iff_toInt_le, ← Int32.toInt_inj, Int32.reduceToInt, nI_toInt] at c1RephasDue c5RephasDue c10 m2MDisIn m5MDisIn m9MDisForgiven m55; done)
                    | (exfalso; simp (disch := omega) only [Int32.lt_iff_toInt_lt, Int32.le_iff_toInt_le, ← Int32.toInt_inj, Int32.reduceToInt, nI_toInt] at c1RephasDue c5RephasDue c10 m2MDisIn m5MDisIn m9MDisForgiven m55; omega)
              · refine jr_ic rfl ?_
                refine jr_goto rfl ?_
                refine jr_zret rfl rfl rfl (Nat.zero_le _) (Nat.zero_le _) ?_
                refine jr_if_ne rfl (fun _ => ?_) (fun z => absurd z (by decide))
                refine jr_ic rfl ?_
                refine jr_iret rfl rfl (Nat.zero_le _) (Nat.zero_le _) ?_
                first
                  | exact ⟨rfl, hRel0⟩
                  | (exfalso; omega)
                  | (exfalso; simp (disch := omega) only [Int32.lt_iff_toInt_lt, Int32.le_iff_toInt_le, ← Int32.toInt_inj, Int32.reduceToInt, nI_toInt] at c1RephasDue c5RephasDue c10 m2MDisIn m5MDisIn m9MDisForgiven; done)
                  | (exfalso; simp (disch := omega) only [Int32.lt_iff_toInt_lt, Int32.le_iff_toInt_le, ← Int32.toInt_inj, Int32.reduceToInt, nI_toInt] at c1RephasDue c5RephasDue c10 m2MDisIn m5MDisIn m9MDisForgiven; omega)
  · show jx_W (jm_JV_span, d + 40, 0, 0, false, 0, _) _ 0 0 0 [some (jv_r 10 0), some (jv_i x), some (jv_i 2)] [] _
    refine jr_aload rfl rfl ?_
    refine jr_getM rfl rfl rfl rfl hto ?_
    refine jr_iload rfl rfl ?_
    refine jr_cv1 (mc' := 0) (ms' := 0) rfl jm_Rep_hasDue_n jm_Rep_hasDue_f rfl rfl rfl rfl rfl rfl rfl (Nat.zero_le _) (Nat.zero_le _) ?_
    show jx_W (jm_Rep_hasDue, _, _, _, _, _, _) _ 0 0 0 [some _, some _] [] _
    refine jr_iload rfl rfl ?_
    refine jr_if_lt rfl (fun c1RephasDue => ?_) (fun c1RephasDue => ?_)
    · refine jr_ic rfl ?_
      refine jr_zret rfl rfl rfl (Nat.zero_le _) (Nat.zero_le _) ?_
      refine jr_if_eq rfl (fun _ => ?_) (fun z => absurd (by decide) z)
      refine jr_ic rfl ?_
      refine jr_iret rfl rfl (Nat.zero_le _) (Nat.zero_le _) ?_
      show jx_W (jm_MD_span, d + 40, 0, 0, false, 1, _) _ 0 0 0 [some _, some _, some _, none, none, none, none, none] [] _
      refine jr_aload rfl rfl ?_
      refine jr_iload rfl rfl ?_
      refine jr_cv1 (mc' := 0) (ms' := 0) rfl jm_MD_isDue_n jm_MD_isDue_f rfl rfl rfl rfl rfl rfl rfl (Nat.zero_le _) (Nat.zero_le _) ?_
      show jx_W (jm_MD_isDue, _, _, _, _, _, _) _ 0 0 0 [some _, some _] [] _
      refine jr_iload rfl rfl ?_
      refine jr_ic rfl ?_
      refine jr_aload rfl rfl ?_
      refine jr_cv0 (mc' := 0) (ms' := 0) rfl jm_MD_dueMany_n jm_MD_dueMany_f rfl rfl rfl rfl rfl rfl rfl (Nat.zero_le _) (Nat.zero_le _) ?_
      show jx_W (jm_MD_dueMany, _, _, _, _, _, _) _ 0 0 0 [some _] [] _
      refine jr_aload rfl rfl ?_
      refine jr_getR rfl rfl rfl rfl (Or.inl rfl) ?_
      refine jr_aload rfl rfl ?_
      refine jr_getI rfl rfl ?_
      refine jr_iald (len := 2) rfl rfl hw.1 (by omega) ?_
      refine jr_iret rfl rfl (Nat.zero_le _) (Nat.zero_le _) ?_
      refine jr_ic rfl ?_
      refine jr_isub rfl ?_
      refine jr_cs3 (mc' := 0) (ms' := 0) rfl jm_MD_isIn_n jm_MD_isIn_f rfl rfl rfl rfl rfl (Nat.zero_le _) (Nat.zero_le _) ?_
      show jx_W (jm_MD_isIn, _, _, _, _, _, _) _ 0 0 0 [some _, some _, some _] [] _
      refine jr_iload rfl rfl ?_
      refine jr_iload rfl rfl ?_
      refine jr_icmp_lt rfl (fun m2MDisIn => ?_) (fun m2MDisIn => ?_)
      · refine jr_ic rfl ?_
        refine jr_zret rfl rfl rfl (Nat.zero_le _) (Nat.zero_le _) ?_
        refine jr_zret rfl rfl rfl (Nat.zero_le _) (Nat.zero_le _) ?_
        refine jr_if_eq rfl (fun _ => ?_) (fun z => absurd (by decide) z)
        refine jr_ic rfl ?_
        refine jr_iret rfl rfl (Nat.zero_le _) (Nat.zero_le _) ?_
        first
          | exact ⟨rfl, hRel0⟩
          | (exfalso; omega)
          | (exfalso; simp (disch := omega) only [Int32.lt_iff_toInt_lt, Int32.le_iff_toInt_le, ← Int32.toInt_inj, Int32.reduceToInt, nI_toInt] at c1RephasDue m2MDisIn; done)
          | (exfalso; simp (disch := omega) only [Int32.lt_iff_toInt_lt, Int32.le_iff_toInt_le, ← Int32.toInt_inj, Int32.reduceToInt, nI_toInt] at c1RephasDue m2MDisIn; omega)
      · refine jr_iload rfl rfl ?_
        refine jr_iload rfl rfl ?_
        refine jr_icmp_gt rfl (fun m5MDisIn => ?_) (fun m5MDisIn => ?_)
        · refine jr_ic rfl ?_
          refine jr_zret rfl rfl rfl (Nat.zero_le _) (Nat.zero_le _) ?_
          refine jr_zret rfl rfl rfl (Nat.zero_le _) (Nat.zero_le _) ?_
          refine jr_if_eq rfl (fun _ => ?_) (fun z => absurd (by decide) z)
          refine jr_ic rfl ?_
          refine jr_iret rfl rfl (Nat.zero_le _) (Nat.zero_le _) ?_
          first
            | exact ⟨rfl, hRel0⟩
            | (exfalso; omega)
            | (exfalso; simp (disch := omega) only [Int32.lt_iff_toInt_lt, Int32.le_iff_toInt_le, ← Int32.toInt_inj, Int32.reduceToInt, nI_toInt] at c1RephasDue m2MDisIn m5MDisIn; done)
            | (exfalso; simp (disch := omega) only [Int32.lt_iff_toInt_lt, Int32.le_iff_toInt_le, ← Int32.toInt_inj, Int32.reduceToInt, nI_toInt] at c1RephasDue m2MDisIn m5MDisIn; omega)
        · refine jr_ic rfl ?_
          refine jr_goto rfl ?_
          refine jr_zret rfl rfl rfl (Nat.zero_le _) (Nat.zero_le _) ?_
          refine jr_zret rfl rfl rfl (Nat.zero_le _) (Nat.zero_le _) ?_
          refine jr_if_eq rfl (fun z => absurd z (by decide)) (fun _ => ?_)
          refine jr_aload rfl rfl ?_
          refine jr_iload rfl rfl ?_
          refine jr_cv1 (mc' := 0) (ms' := 0) rfl jm_MD_isForgiven_n jm_MD_isForgiven_f rfl rfl rfl rfl rfl rfl rfl (Nat.zero_le _) (Nat.zero_le _) ?_
          show jx_W (jm_MD_isForgiven, _, _, _, _, _, _) _ 0 0 0 [some _, some _] [] _
          refine jr_aload rfl rfl ?_
          refine jr_getR rfl rfl rfl rfl (Or.inl rfl) ?_
          refine jr_ic rfl ?_
          refine jr_iald (len := 337) rfl rfl (show _ = nI 36 from rfl) (by decide) ?_
          refine jr_iload rfl rfl ?_
          refine jr_ishr rfl ?_
          refine jr_ic rfl ?_
          refine jr_iand rfl ?_
          refine jr_ic rfl ?_
          refine jr_icmp_ne rfl (fun m9MDisForgiven => ?_) (fun m9MDisForgiven => ?_)
          · refine jr_ic rfl ?_
            refine jr_zret rfl rfl rfl (Nat.zero_le _) (Nat.zero_le _) ?_
            refine jr_if_ne rfl (fun z => absurd (by decide) z) (fun _ => ?_)
            refine jr_iload rfl rfl ?_
            refine jr_ic rfl ?_
            refine jr_ic rfl ?_
            refine jr_cs3 (mc' := 0) (ms' := 0) rfl jm_MD_isIn_n jm_MD_isIn_f rfl rfl rfl rfl rfl (Nat.zero_le _) (Nat.zero_le _) ?_
            show jx_W (jm_MD_isIn, _, _, _, _, _, _) _ 0 0 0 [some _, some _, some _] [] _
            refine jr_iload rfl rfl ?_
            refine jr_iload rfl rfl ?_
            refine jr_icmp_lt rfl (fun z => absurd z (by decide)) (fun _ => ?_)
            refine jr_iload rfl rfl ?_
            refine jr_iload rfl rfl ?_
            refine jr_icmp_gt rfl (fun z => absurd z (by decide)) (fun _ => ?_)
            refine jr_ic rfl ?_
            refine jr_goto rfl ?_
            refine jr_zret rfl rfl rfl (Nat.zero_le _) (Nat.zero_le _) ?_
            refine jr_if_ne rfl (fun _ => ?_) (fun z => absurd z (by decide))
            first
              | (exfalso; omega)
              | (exfalso; simp (disch := omega) only [Int32.lt_iff_toInt_lt, Int32.le_iff_toInt_le, ← Int32.toInt_inj, Int32.reduceToInt, nI_toInt] at c1RephasDue m2MDisIn m5MDisIn m9MDisForgiven; done)
              | (exfalso; simp (disch := omega) only [Int32.lt_iff_toInt_lt, Int32.le_iff_toInt_le, ← Int32.toInt_inj, Int32.reduceToInt, nI_toInt] at c1RephasDue m2MDisIn m5MDisIn m9MDisForgiven; omega)
          · refine jr_ic rfl ?_
            refine jr_goto rfl ?_
            refine jr_zret rfl rfl rfl (Nat.zero_le _) (Nat.zero_le _) ?_
            refine jr_if_ne rfl (fun _ => ?_) (fun z => absurd z (by decide))
            refine jr_ic rfl ?_
            refine jr_iret rfl rfl (Nat.zero_le _) (Nat.zero_le _) ?_
            first
              | exact ⟨rfl, hRel0⟩
              | (exfalso; omega)
              | (exfalso; simp (disch := omega) only [Int32.lt_iff_toInt_lt, Int32.le_iff_toInt_le, ← Int32.toInt_inj, Int32.reduceToInt, nI_toInt] at c1RephasDue m2MDisIn m5MDisIn m9MDisForgiven; done)
              | (exfalso; simp (disch := omega) only [Int32.lt_iff_toInt_lt, Int32.le_iff_toInt_le, ← Int32.toInt_inj, Int32.reduceToInt, nI_toInt] at c1RephasDue m2MDisIn m5MDisIn m9MDisForgiven; omega)
    · refine jr_iload rfl rfl ?_
      refine jr_aload rfl rfl ?_
      refine jr_getI rfl rfl ?_
      refine jr_icmp_ge rfl (fun c5RephasDue => ?_) (fun c5RephasDue => ?_)
      · refine jr_ic rfl ?_
        refine jr_zret rfl rfl rfl (Nat.zero_le _) (Nat.zero_le _) ?_
        refine jr_if_eq rfl (fun _ => ?_) (fun z => absurd (by decide) z)
        refine jr_ic rfl ?_
        refine jr_iret rfl rfl (Nat.zero_le _) (Nat.zero_le _) ?_
        show jx_W (jm_MD_span, d + 40, 0, 0, false, 1, _) _ 0 0 0 [some _, some _, some _, none, none, none, none, none] [] _
        refine jr_aload rfl rfl ?_
        refine jr_iload rfl rfl ?_
        refine jr_cv1 (mc' := 0) (ms' := 0) rfl jm_MD_isDue_n jm_MD_isDue_f rfl rfl rfl rfl rfl rfl rfl (Nat.zero_le _) (Nat.zero_le _) ?_
        show jx_W (jm_MD_isDue, _, _, _, _, _, _) _ 0 0 0 [some _, some _] [] _
        refine jr_iload rfl rfl ?_
        refine jr_ic rfl ?_
        refine jr_aload rfl rfl ?_
        refine jr_cv0 (mc' := 0) (ms' := 0) rfl jm_MD_dueMany_n jm_MD_dueMany_f rfl rfl rfl rfl rfl rfl rfl (Nat.zero_le _) (Nat.zero_le _) ?_
        show jx_W (jm_MD_dueMany, _, _, _, _, _, _) _ 0 0 0 [some _] [] _
        refine jr_aload rfl rfl ?_
        refine jr_getR rfl rfl rfl rfl (Or.inl rfl) ?_
        refine jr_aload rfl rfl ?_
        refine jr_getI rfl rfl ?_
        refine jr_iald (len := 2) rfl rfl hw.1 (by omega) ?_
        refine jr_iret rfl rfl (Nat.zero_le _) (Nat.zero_le _) ?_
        refine jr_ic rfl ?_
        refine jr_isub rfl ?_
        refine jr_cs3 (mc' := 0) (ms' := 0) rfl jm_MD_isIn_n jm_MD_isIn_f rfl rfl rfl rfl rfl (Nat.zero_le _) (Nat.zero_le _) ?_
        show jx_W (jm_MD_isIn, _, _, _, _, _, _) _ 0 0 0 [some _, some _, some _] [] _
        refine jr_iload rfl rfl ?_
        refine jr_iload rfl rfl ?_
        refine jr_icmp_lt rfl (fun m2MDisIn => ?_) (fun m2MDisIn => ?_)
        · refine jr_ic rfl ?_
          refine jr_zret rfl rfl rfl (Nat.zero_le _) (Nat.zero_le _) ?_
          refine jr_zret rfl rfl rfl (Nat.zero_le _) (Nat.zero_le _) ?_
          refine jr_if_eq rfl (fun _ => ?_) (fun z => absurd (by decide) z)
          refine jr_ic rfl ?_
          refine jr_iret rfl rfl (Nat.zero_le _) (Nat.zero_le _) ?_
          first
            | exact ⟨rfl, hRel0⟩
            | (exfalso; omega)
            | (exfalso; simp (disch := omega) only [Int32.lt_iff_toInt_lt, Int32.le_iff_toInt_le, ← Int32.toInt_inj, Int32.reduceToInt, nI_toInt] at c1RephasDue c5RephasDue m2MDisIn; done)
            | (exfalso; simp (disch := omega) only [Int32.lt_iff_toInt_lt, Int32.le_iff_toInt_le, ← Int32.toInt_inj, Int32.reduceToInt, nI_toInt] at c1RephasDue c5RephasDue m2MDisIn; omega)
        · refine jr_iload rfl rfl ?_
          refine jr_iload rfl rfl ?_
          refine jr_icmp_gt rfl (fun m5MDisIn => ?_) (fun m5MDisIn => ?_)
          · refine jr_ic rfl ?_
            refine jr_zret rfl rfl rfl (Nat.zero_le _) (Nat.zero_le _) ?_
            refine jr_zret rfl rfl rfl (Nat.zero_le _) (Nat.zero_le _) ?_
            refine jr_if_eq rfl (fun _ => ?_) (fun z => absurd (by decide) z)
            refine jr_ic rfl ?_
            refine jr_iret rfl rfl (Nat.zero_le _) (Nat.zero_le _) ?_
            first
              | exact ⟨rfl, hRel0⟩
              | (exfalso; omega)
              | (exfalso; simp (disch := omega) only [Int32.lt_iff_toInt_lt, Int32.le_iff_toInt_le, ← Int32.toInt_inj, Int32.reduceToInt, nI_toInt] at c1RephasDue c5RephasDue m2MDisIn m5MDisIn; done)
              | (exfalso; simp (disch := omega) only [Int32.lt_iff_toInt_lt, Int32.le_iff_toInt_le, ← Int32.toInt_inj, Int32.reduceToInt, nI_toInt] at c1RephasDue c5RephasDue m2MDisIn m5MDisIn; omega)
          · refine jr_ic rfl ?_
            refine jr_goto rfl ?_
            refine jr_zret rfl rfl rfl (Nat.zero_le _) (Nat.zero_le _) ?_
            refine jr_zret rfl rfl rfl (Nat.zero_le _) (Nat.zero_le _) ?_
            refine jr_if_eq rfl (fun z => absurd z (by decide)) (fun _ => ?_)
            refine jr_aload rfl rfl ?_
            refine jr_iload rfl rfl ?_
            refine jr_cv1 (mc' := 0) (ms' := 0) rfl jm_MD_isForgiven_n jm_MD_isForgiven_f rfl rfl rfl rfl rfl rfl rfl (Nat.zero_le _) (Nat.zero_le _) ?_
            show jx_W (jm_MD_isForgiven, _, _, _, _, _, _) _ 0 0 0 [some _, some _] [] _
            refine jr_aload rfl rfl ?_
            refine jr_getR rfl rfl rfl rfl (Or.inl rfl) ?_
            refine jr_ic rfl ?_
            refine jr_iald (len := 337) rfl rfl (show _ = nI 36 from rfl) (by decide) ?_
            refine jr_iload rfl rfl ?_
            refine jr_ishr rfl ?_
            refine jr_ic rfl ?_
            refine jr_iand rfl ?_
            refine jr_ic rfl ?_
            refine jr_icmp_ne rfl (fun m9MDisForgiven => ?_) (fun m9MDisForgiven => ?_)
            · refine jr_ic rfl ?_
              refine jr_zret rfl rfl rfl (Nat.zero_le _) (Nat.zero_le _) ?_
              refine jr_if_ne rfl (fun z => absurd (by decide) z) (fun _ => ?_)
              refine jr_iload rfl rfl ?_
              refine jr_ic rfl ?_
              refine jr_ic rfl ?_
              refine jr_cs3 (mc' := 0) (ms' := 0) rfl jm_MD_isIn_n jm_MD_isIn_f rfl rfl rfl rfl rfl (Nat.zero_le _) (Nat.zero_le _) ?_
              show jx_W (jm_MD_isIn, _, _, _, _, _, _) _ 0 0 0 [some _, some _, some _] [] _
              refine jr_iload rfl rfl ?_
              refine jr_iload rfl rfl ?_
              refine jr_icmp_lt rfl (fun z => absurd z (by decide)) (fun _ => ?_)
              refine jr_iload rfl rfl ?_
              refine jr_iload rfl rfl ?_
              refine jr_icmp_gt rfl (fun z => absurd z (by decide)) (fun _ => ?_)
              refine jr_ic rfl ?_
              refine jr_goto rfl ?_
              refine jr_zret rfl rfl rfl (Nat.zero_le _) (Nat.zero_le _) ?_
              refine jr_if_ne rfl (fun _ => ?_) (fun z => absurd z (by decide))
              first
                | (exfalso; omega)
                | (exfalso; simp (disch := omega) only [Int32.lt_iff_toInt_lt, Int32.le_iff_toInt_le, ← Int32.toInt_inj, Int32.reduceToInt, nI_toInt] at c1RephasDue c5RephasDue m2MDisIn m5MDisIn m9MDisForgiven; done)
                | (exfalso; simp (disch := omega) only [Int32.lt_iff_toInt_lt, Int32.le_iff_toInt_le, ← Int32.toInt_inj, Int32.reduceToInt, nI_toInt] at c1RephasDue c5RephasDue m2MDisIn m5MDisIn m9MDisForgiven; omega)
            · refine jr_ic rfl ?_
              refine jr_goto rfl ?_
              refine jr_zret rfl rfl rfl (Nat.zero_le _) (Nat.zero_le _) ?_
              refine jr_if_ne rfl (fun _ => ?_) (fun z => absurd z (by decide))
              refine jr_ic rfl ?_
              refine jr_iret rfl rfl (Nat.zero_le _) (Nat.zero_le _) ?_
              first
                | exact ⟨rfl, hRel0⟩
                | (exfalso; omega)
                | (exfalso; simp (disch := omega) only [Int32.lt_iff_toInt_lt, Int32.le_iff_toInt_le, ← Int32.toInt_inj, Int32.reduceToInt, nI_toInt] at c1RephasDue c5RephasDue m2MDisIn m5MDisIn m9MDisForgiven; done)
                | (exfalso; simp (disch := omega) only [Int32.lt_iff_toInt_lt, Int32.le_iff_toInt_le, ← Int32.toInt_inj, Int32.reduceToInt, nI_toInt] at c1RephasDue c5RephasDue m2MDisIn m5MDisIn m9MDisForgiven; omega)
      · refine jr_ic rfl ?_
        refine jr_goto rfl ?_
        refine jr_zret rfl rfl rfl (Nat.zero_le _) (Nat.zero_le _) ?_
        refine jr_if_eq rfl (fun z => absurd z (by decide)) (fun _ => ?_)
        refine jr_aload rfl rfl ?_
        refine jr_getR rfl rfl rfl rfl (Or.inl rfl) ?_
        refine jr_getR rfl rfl rfl rfl (Or.inl rfl) ?_
        refine jr_iload rfl rfl ?_
        first
          | (exfalso; omega)
          | (exfalso; simp (disch := omega) only [Int32.lt_iff_toInt_lt, Int32.le_iff_toInt_le, ← Int32.toInt_inj, Int32.reduceToInt, nI_toInt] at c1RephasDue c5RephasDue; done)
          | (exfalso; simp (disch := omega) only [Int32.lt_iff_toInt_lt, Int32.le_iff_toInt_le, ← Int32.toInt_inj, Int32.reduceToInt, nI_toInt] at c1RephasDue c5RephasDue; omega)

set_option maxHeartbeats 800000 in
set_option maxRecDepth 100000 in
theorem pd_span_o {d : Nat} {hc hm : jx_H} {x y : Int32} (hy0 : ¬ y = 0) (hy1 : ¬ y = 1) (hy2 : ¬ y = 2) (hRel : jz_Rel hc hm) : jx_Ev jm_JV_span (d + 40) 0 0 false 0 [jv_r 10 0, jv_i x, jv_i y] hc (fun r hc' => jx_Ev jm_MD_span (d + 40) 0 0 false 1 [jv_r 11 0, jv_i x, jv_i y] hm (fun r' hm' => r = r' ∧ jz_Rel hc' hm')) := by
  have hRel0 := hRel
  obtain ⟨b, r, ⟨hw, hG, hr2, hto, hsp, hR, hA, hL⟩, hTa, hFa, hLy, hTi, hLe, hBo, hAc, hWo⟩ := hRel
  have hb2 := hw.2.1
  have hnd := hw.2.2.1.2.2.1
  have hnd5 := hnd.2
  have kd1 : (jh_I hc 7 r 5).toInt = (jz_nd hm b : Int) := by rw [hR.2.2.1]; exact (congrArg Int32.toInt hnd.1).trans (nI_toInt (by omega))
  have kd2 : (jh_I hm 68 0 b).toInt = (jz_nd hm b : Int) := (congrArg Int32.toInt hnd.1).trans (nI_toInt (by omega))
  have kd3 : (jh_I hm 68 0 b - 1).toInt = (jz_nd hm b : Int) - 1 := by rw [Int32.toInt_sub, kd2, show (1 : Int32).toInt = 1 from rfl]; exact jn_sm (by omega) (by omega)
  simp only [← Int32.toInt_inj, Int32.reduceToInt] at hy0 hy1 hy2
  rcases nI_dec x (jz_nd hm b) (by omega) with ⟨i, rfl, hi, hi2⟩ | hi
  · have hnm := hw.2.2.1.1
    have hi12 : i < 12 := by omega
    have e3 := (hA.2.2.2.2 i (by omega)).2.2
    have e4 := jy_s01 (m := jh_I hm 98 0 36) (l := i) (by omega)
    obtain ⟨px, py, z, u, M, d1, d2, d3, d4, d5, d6, d7, d8, d9, d10, d11, d12, d13, d14⟩ := hw.2.2.1.2.2.2.2.1 i hi
    obtain ⟨f, t, hf, ht, hft, ht31⟩ := hw.2.2.1.2.2.2.1 M d13
    have hmo : ¬ jC hm b 0 0 = 0 := fun z0 => by
      have h1 := jz_gi (show jC hm b 0 0 = nI (jz_nm hm b) from hnm.1) (by omega)
      rw [z0] at h1
      have h0 : (0 : Int32).toInt = 0 := rfl
      omega
    obtain ⟨m0, hm0, hml⟩ := jz_mo hw hmo
    have hd := hR.2.2.2.2.2.1 i hi
    obtain ⟨lt, hpd⟩ : ∃ lt : Bool, ∀ l, l ≤ 40 → jw_paid (jC hm b) i (nI l) = nI (jw_pn lt u l) := by
      refine ⟨decide (¬ jC hm b 11 i = 0), fun l hl => ?_⟩
      unfold jw_paid jw_pn
      rw [d4]
      by_cases e : nI l < nI u
      · rw [if_pos e, if_pos (jn_lt e (by omega) (by omega))]
        by_cases g : jC hm b 11 i = 0
        · rw [if_pos g, decide_eq_false (show ¬ ¬ jC hm b 11 i = 0 from fun z => z g)]; rfl
        · rw [if_neg g, decide_eq_true g]; rfl
      · rw [if_neg e, if_neg (by have := jn_nlt e (by omega) (by omega); omega)]
    have hpt := @jw_pn_b lt u t d12 (by omega)
    have hpf := @jw_pn_b lt u f d12 (by omega)
    show jx_W (jm_JV_span, d + 40, 0, 0, false, 0, _) _ 0 0 0 [some (jv_r 10 0), some (jv_i (nI i)), some (jv_i y)] [] _
    refine jr_aload rfl rfl ?_
    refine jr_getM rfl rfl rfl rfl hto ?_
    refine jr_iload rfl rfl ?_
    refine jr_cv1 (mc' := 0) (ms' := 0) rfl jm_Rep_hasDue_n jm_Rep_hasDue_f rfl rfl rfl rfl rfl rfl rfl (Nat.zero_le _) (Nat.zero_le _) ?_
    show jx_W (jm_Rep_hasDue, _, _, _, _, _, _) _ 0 0 0 [some _, some _] [] _
    refine jr_iload rfl rfl ?_
    refine jr_if_lt rfl (fun c1RephasDue => ?_) (fun c1RephasDue => ?_)
    · refine jr_ic rfl ?_
      refine jr_zret rfl rfl rfl (Nat.zero_le _) (Nat.zero_le _) ?_
      refine jr_if_eq rfl (fun _ => ?_) (fun z => absurd (by decide) z)
      refine jr_ic rfl ?_
      refine jr_iret rfl rfl (Nat.zero_le _) (Nat.zero_le _) ?_
      show jx_W (jm_MD_span, d + 40, 0, 0, false, 1, _) _ 0 0 0 [some _, some _, some _, none, none, none, none, none] [] _
      refine jr_aload rfl rfl ?_
      refine jr_iload rfl rfl ?_
      refine jr_cv1 (mc' := 0) (ms' := 0) rfl jm_MD_isDue_n jm_MD_isDue_f rfl rfl rfl rfl rfl rfl rfl (Nat.zero_le _) (Nat.zero_le _) ?_
      show jx_W (jm_MD_isDue, _, _, _, _, _, _) _ 0 0 0 [some _, some _] [] _
      refine jr_iload rfl rfl ?_
      refine jr_ic rfl ?_
      refine jr_aload rfl rfl ?_
      refine jr_cv0 (mc' := 0) (ms' := 0) rfl jm_MD_dueMany_n jm_MD_dueMany_f rfl rfl rfl rfl rfl rfl rfl (Nat.zero_le _) (Nat.zero_le _) ?_
      show jx_W (jm_MD_dueMany, _, _, _, _, _, _) _ 0 0 0 [some _] [] _
      refine jr_aload rfl rfl ?_
      refine jr_getR rfl rfl rfl rfl (Or.inl rfl) ?_
      refine jr_aload rfl rfl ?_
      refine jr_getI rfl rfl ?_
      refine jr_iald (len := 2) rfl rfl hw.1 (by omega) ?_
      refine jr_iret rfl rfl (Nat.zero_le _) (Nat.zero_le _) ?_
      refine jr_ic rfl ?_
      refine jr_isub rfl ?_
      refine jr_cs3 (mc' := 0) (ms' := 0) rfl jm_MD_isIn_n jm_MD_isIn_f rfl rfl rfl rfl rfl (Nat.zero_le _) (Nat.zero_le _) ?_
      show jx_W (jm_MD_isIn, _, _, _, _, _, _) _ 0 0 0 [some _, some _, some _] [] _
      refine jr_iload rfl rfl ?_
      refine jr_iload rfl rfl ?_
      refine jr_icmp_lt rfl (fun m2MDisIn => ?_) (fun m2MDisIn => ?_)
      · refine jr_ic rfl ?_
        refine jr_zret rfl rfl rfl (Nat.zero_le _) (Nat.zero_le _) ?_
        refine jr_zret rfl rfl rfl (Nat.zero_le _) (Nat.zero_le _) ?_
        refine jr_if_eq rfl (fun _ => ?_) (fun z => absurd (by decide) z)
        refine jr_ic rfl ?_
        refine jr_iret rfl rfl (Nat.zero_le _) (Nat.zero_le _) ?_
        first
          | exact ⟨rfl, hRel0⟩
          | (exfalso; omega)
          | (exfalso; simp (disch := omega) only [Int32.lt_iff_toInt_lt, Int32.le_iff_toInt_le, ← Int32.toInt_inj, Int32.reduceToInt, nI_toInt] at c1RephasDue m2MDisIn; done)
          | (exfalso; simp (disch := omega) only [Int32.lt_iff_toInt_lt, Int32.le_iff_toInt_le, ← Int32.toInt_inj, Int32.reduceToInt, nI_toInt] at c1RephasDue m2MDisIn; omega)
      · refine jr_iload rfl rfl ?_
        refine jr_iload rfl rfl ?_
        refine jr_icmp_gt rfl (fun m5MDisIn => ?_) (fun m5MDisIn => ?_)
        · refine jr_ic rfl ?_
          refine jr_zret rfl rfl rfl (Nat.zero_le _) (Nat.zero_le _) ?_
          refine jr_zret rfl rfl rfl (Nat.zero_le _) (Nat.zero_le _) ?_
          refine jr_if_eq rfl (fun _ => ?_) (fun z => absurd (by decide) z)
          refine jr_ic rfl ?_
          refine jr_iret rfl rfl (Nat.zero_le _) (Nat.zero_le _) ?_
          first
            | exact ⟨rfl, hRel0⟩
            | (exfalso; omega)
            | (exfalso; simp (disch := omega) only [Int32.lt_iff_toInt_lt, Int32.le_iff_toInt_le, ← Int32.toInt_inj, Int32.reduceToInt, nI_toInt] at c1RephasDue m2MDisIn m5MDisIn; done)
            | (exfalso; simp (disch := omega) only [Int32.lt_iff_toInt_lt, Int32.le_iff_toInt_le, ← Int32.toInt_inj, Int32.reduceToInt, nI_toInt] at c1RephasDue m2MDisIn m5MDisIn; omega)
        · refine jr_ic rfl ?_
          refine jr_goto rfl ?_
          refine jr_zret rfl rfl rfl (Nat.zero_le _) (Nat.zero_le _) ?_
          refine jr_zret rfl rfl rfl (Nat.zero_le _) (Nat.zero_le _) ?_
          refine jr_if_eq rfl (fun z => absurd z (by decide)) (fun _ => ?_)
          refine jr_aload rfl rfl ?_
          refine jr_iload rfl rfl ?_
          refine jr_cv1 (mc' := 0) (ms' := 0) rfl jm_MD_isForgiven_n jm_MD_isForgiven_f rfl rfl rfl rfl rfl rfl rfl (Nat.zero_le _) (Nat.zero_le _) ?_
          show jx_W (jm_MD_isForgiven, _, _, _, _, _, _) _ 0 0 0 [some _, some _] [] _
          refine jr_aload rfl rfl ?_
          refine jr_getR rfl rfl rfl rfl (Or.inl rfl) ?_
          refine jr_ic rfl ?_
          refine jr_iald (len := 337) rfl rfl (show _ = nI 36 from rfl) (by decide) ?_
          refine jr_iload rfl rfl ?_
          refine jr_ishr rfl ?_
          refine jr_ic rfl ?_
          refine jr_iand rfl ?_
          refine jr_ic rfl ?_
          refine jr_icmp_ne rfl (fun m9MDisForgiven => ?_) (fun m9MDisForgiven => ?_)
          · refine jr_ic rfl ?_
            refine jr_zret rfl rfl rfl (Nat.zero_le _) (Nat.zero_le _) ?_
            refine jr_if_ne rfl (fun z => absurd (by decide) z) (fun _ => ?_)
            refine jr_iload rfl rfl ?_
            refine jr_ic rfl ?_
            refine jr_ic rfl ?_
            refine jr_cs3 (mc' := 0) (ms' := 0) rfl jm_MD_isIn_n jm_MD_isIn_f rfl rfl rfl rfl rfl (Nat.zero_le _) (Nat.zero_le _) ?_
            show jx_W (jm_MD_isIn, _, _, _, _, _, _) _ 0 0 0 [some _, some _, some _] [] _
            refine jr_iload rfl rfl ?_
            refine jr_iload rfl rfl ?_
            refine jr_icmp_lt rfl (fun m2MDisIn_2 => ?_) (fun m2MDisIn_2 => ?_)
            · refine jr_ic rfl ?_
              refine jr_zret rfl rfl rfl (Nat.zero_le _) (Nat.zero_le _) ?_
              refine jr_if_ne rfl (fun z => absurd (by decide) z) (fun _ => ?_)
              refine jr_ic rfl ?_
              refine jr_iret rfl rfl (Nat.zero_le _) (Nat.zero_le _) ?_
              first
                | exact ⟨rfl, hRel0⟩
                | (exfalso; omega)
                | (exfalso; simp (disch := omega) only [Int32.lt_iff_toInt_lt, Int32.le_iff_toInt_le, ← Int32.toInt_inj, Int32.reduceToInt, nI_toInt] at c1RephasDue m2MDisIn m5MDisIn m9MDisForgiven m2MDisIn_2; done)
                | (exfalso; simp (disch := omega) only [Int32.lt_iff_toInt_lt, Int32.le_iff_toInt_le, ← Int32.toInt_inj, Int32.reduceToInt, nI_toInt] at c1RephasDue m2MDisIn m5MDisIn m9MDisForgiven m2MDisIn_2; omega)
            · refine jr_iload rfl rfl ?_
              refine jr_iload rfl rfl ?_
              refine jr_icmp_gt rfl (fun m5MDisIn_2 => ?_) (fun m5MDisIn_2 => ?_)
              · refine jr_ic rfl ?_
                refine jr_zret rfl rfl rfl (Nat.zero_le _) (Nat.zero_le _) ?_
                refine jr_if_ne rfl (fun z => absurd (by decide) z) (fun _ => ?_)
                refine jr_ic rfl ?_
                refine jr_iret rfl rfl (Nat.zero_le _) (Nat.zero_le _) ?_
                first
                  | exact ⟨rfl, hRel0⟩
                  | (exfalso; omega)
                  | (exfalso; simp (disch := omega) only [Int32.lt_iff_toInt_lt, Int32.le_iff_toInt_le, ← Int32.toInt_inj, Int32.reduceToInt, nI_toInt] at c1RephasDue m2MDisIn m5MDisIn m9MDisForgiven m2MDisIn_2 m5MDisIn_2; done)
                  | (exfalso; simp (disch := omega) only [Int32.lt_iff_toInt_lt, Int32.le_iff_toInt_le, ← Int32.toInt_inj, Int32.reduceToInt, nI_toInt] at c1RephasDue m2MDisIn m5MDisIn m9MDisForgiven m2MDisIn_2 m5MDisIn_2; omega)
              · refine jr_ic rfl ?_
                refine jr_goto rfl ?_
                refine jr_zret rfl rfl rfl (Nat.zero_le _) (Nat.zero_le _) ?_
                refine jr_if_ne rfl (fun _ => ?_) (fun z => absurd z (by decide))
                first
                  | (exfalso; omega)
                  | (exfalso; simp (disch := omega) only [Int32.lt_iff_toInt_lt, Int32.le_iff_toInt_le, ← Int32.toInt_inj, Int32.reduceToInt, nI_toInt] at c1RephasDue m2MDisIn m5MDisIn m9MDisForgiven m2MDisIn_2 m5MDisIn_2; done)
                  | (exfalso; simp (disch := omega) only [Int32.lt_iff_toInt_lt, Int32.le_iff_toInt_le, ← Int32.toInt_inj, Int32.reduceToInt, nI_toInt] at c1RephasDue m2MDisIn m5MDisIn m9MDisForgiven m2MDisIn_2 m5MDisIn_2; omega)
          · refine jr_ic rfl ?_
            refine jr_goto rfl ?_
            refine jr_zret rfl rfl rfl (Nat.zero_le _) (Nat.zero_le _) ?_
            refine jr_if_ne rfl (fun _ => ?_) (fun z => absurd z (by decide))
            refine jr_ic rfl ?_
            refine jr_iret rfl rfl (Nat.zero_le _) (Nat.zero_le _) ?_
            first
              | exact ⟨rfl, hRel0⟩
              | (exfalso; omega)
              | (exfalso; simp (disch := omega) only [Int32.lt_iff_toInt_lt, Int32.le_iff_toInt_le, ← Int32.toInt_inj, Int32.reduceToInt, nI_toInt] at c1RephasDue m2MDisIn m5MDisIn m9MDisForgiven; done)
              | (exfalso; simp (disch := omega) only [Int32.lt_iff_toInt_lt, Int32.le_iff_toInt_le, ← Int32.toInt_inj, Int32.reduceToInt, nI_toInt] at c1RephasDue m2MDisIn m5MDisIn m9MDisForgiven; omega)
    · refine jr_iload rfl rfl ?_
      refine jr_aload rfl rfl ?_
      refine jr_getI rfl rfl ?_
      refine jr_icmp_ge rfl (fun c5RephasDue => ?_) (fun c5RephasDue => ?_)
      · refine jr_ic rfl ?_
        refine jr_zret rfl rfl rfl (Nat.zero_le _) (Nat.zero_le _) ?_
        refine jr_if_eq rfl (fun _ => ?_) (fun z => absurd (by decide) z)
        refine jr_ic rfl ?_
        refine jr_iret rfl rfl (Nat.zero_le _) (Nat.zero_le _) ?_
        show jx_W (jm_MD_span, d + 40, 0, 0, false, 1, _) _ 0 0 0 [some _, some _, some _, none, none, none, none, none] [] _
        refine jr_aload rfl rfl ?_
        refine jr_iload rfl rfl ?_
        refine jr_cv1 (mc' := 0) (ms' := 0) rfl jm_MD_isDue_n jm_MD_isDue_f rfl rfl rfl rfl rfl rfl rfl (Nat.zero_le _) (Nat.zero_le _) ?_
        show jx_W (jm_MD_isDue, _, _, _, _, _, _) _ 0 0 0 [some _, some _] [] _
        refine jr_iload rfl rfl ?_
        refine jr_ic rfl ?_
        refine jr_aload rfl rfl ?_
        refine jr_cv0 (mc' := 0) (ms' := 0) rfl jm_MD_dueMany_n jm_MD_dueMany_f rfl rfl rfl rfl rfl rfl rfl (Nat.zero_le _) (Nat.zero_le _) ?_
        show jx_W (jm_MD_dueMany, _, _, _, _, _, _) _ 0 0 0 [some _] [] _
        refine jr_aload rfl rfl ?_
        refine jr_getR rfl rfl rfl rfl (Or.inl rfl) ?_
        refine jr_aload rfl rfl ?_
        refine jr_getI rfl rfl ?_
        refine jr_iald (len := 2) rfl rfl hw.1 (by omega) ?_
        refine jr_iret rfl rfl (Nat.zero_le _) (Nat.zero_le _) ?_
        refine jr_ic rfl ?_
        refine jr_isub rfl ?_
        refine jr_cs3 (mc' := 0) (ms' := 0) rfl jm_MD_isIn_n jm_MD_isIn_f rfl rfl rfl rfl rfl (Nat.zero_le _) (Nat.zero_le _) ?_
        show jx_W (jm_MD_isIn, _, _, _, _, _, _) _ 0 0 0 [some _, some _, some _] [] _
        refine jr_iload rfl rfl ?_
        refine jr_iload rfl rfl ?_
        refine jr_icmp_lt rfl (fun m2MDisIn => ?_) (fun m2MDisIn => ?_)
        · refine jr_ic rfl ?_
          refine jr_zret rfl rfl rfl (Nat.zero_le _) (Nat.zero_le _) ?_
          refine jr_zret rfl rfl rfl (Nat.zero_le _) (Nat.zero_le _) ?_
          refine jr_if_eq rfl (fun _ => ?_) (fun z => absurd (by decide) z)
          refine jr_ic rfl ?_
          refine jr_iret rfl rfl (Nat.zero_le _) (Nat.zero_le _) ?_
          first
            | exact ⟨rfl, hRel0⟩
            | (exfalso; omega)
            | (exfalso; simp (disch := omega) only [Int32.lt_iff_toInt_lt, Int32.le_iff_toInt_le, ← Int32.toInt_inj, Int32.reduceToInt, nI_toInt] at c1RephasDue c5RephasDue m2MDisIn; done)
            | (exfalso; simp (disch := omega) only [Int32.lt_iff_toInt_lt, Int32.le_iff_toInt_le, ← Int32.toInt_inj, Int32.reduceToInt, nI_toInt] at c1RephasDue c5RephasDue m2MDisIn; omega)
        · refine jr_iload rfl rfl ?_
          refine jr_iload rfl rfl ?_
          refine jr_icmp_gt rfl (fun m5MDisIn => ?_) (fun m5MDisIn => ?_)
          · refine jr_ic rfl ?_
            refine jr_zret rfl rfl rfl (Nat.zero_le _) (Nat.zero_le _) ?_
            refine jr_zret rfl rfl rfl (Nat.zero_le _) (Nat.zero_le _) ?_
            refine jr_if_eq rfl (fun _ => ?_) (fun z => absurd (by decide) z)
            refine jr_ic rfl ?_
            refine jr_iret rfl rfl (Nat.zero_le _) (Nat.zero_le _) ?_
            first
              | exact ⟨rfl, hRel0⟩
              | (exfalso; omega)
              | (exfalso; simp (disch := omega) only [Int32.lt_iff_toInt_lt, Int32.le_iff_toInt_le, ← Int32.toInt_inj, Int32.reduceToInt, nI_toInt] at c1RephasDue c5RephasDue m2MDisIn m5MDisIn; done)
              | (exfalso; simp (disch := omega) only [Int32.lt_iff_toInt_lt, Int32.le_iff_toInt_le, ← Int32.toInt_inj, Int32.reduceToInt, nI_toInt] at c1RephasDue c5RephasDue m2MDisIn m5MDisIn; omega)
          · refine jr_ic rfl ?_
            refine jr_goto rfl ?_
            refine jr_zret rfl rfl rfl (Nat.zero_le _) (Nat.zero_le _) ?_
            refine jr_zret rfl rfl rfl (Nat.zero_le _) (Nat.zero_le _) ?_
            refine jr_if_eq rfl (fun z => absurd z (by decide)) (fun _ => ?_)
            refine jr_aload rfl rfl ?_
            refine jr_iload rfl rfl ?_
            refine jr_cv1 (mc' := 0) (ms' := 0) rfl jm_MD_isForgiven_n jm_MD_isForgiven_f rfl rfl rfl rfl rfl rfl rfl (Nat.zero_le _) (Nat.zero_le _) ?_
            show jx_W (jm_MD_isForgiven, _, _, _, _, _, _) _ 0 0 0 [some _, some _] [] _
            refine jr_aload rfl rfl ?_
            refine jr_getR rfl rfl rfl rfl (Or.inl rfl) ?_
            refine jr_ic rfl ?_
            refine jr_iald (len := 337) rfl rfl (show _ = nI 36 from rfl) (by decide) ?_
            refine jr_iload rfl rfl ?_
            refine jr_ishr rfl ?_
            refine jr_ic rfl ?_
            refine jr_iand rfl ?_
            refine jr_ic rfl ?_
            refine jr_icmp_ne rfl (fun m9MDisForgiven => ?_) (fun m9MDisForgiven => ?_)
            · refine jr_ic rfl ?_
              refine jr_zret rfl rfl rfl (Nat.zero_le _) (Nat.zero_le _) ?_
              refine jr_if_ne rfl (fun z => absurd (by decide) z) (fun _ => ?_)
              refine jr_iload rfl rfl ?_
              refine jr_ic rfl ?_
              refine jr_ic rfl ?_
              refine jr_cs3 (mc' := 0) (ms' := 0) rfl jm_MD_isIn_n jm_MD_isIn_f rfl rfl rfl rfl rfl (Nat.zero_le _) (Nat.zero_le _) ?_
              show jx_W (jm_MD_isIn, _, _, _, _, _, _) _ 0 0 0 [some _, some _, some _] [] _
              refine jr_iload rfl rfl ?_
              refine jr_iload rfl rfl ?_
              refine jr_icmp_lt rfl (fun m2MDisIn_2 => ?_) (fun m2MDisIn_2 => ?_)
              · refine jr_ic rfl ?_
                refine jr_zret rfl rfl rfl (Nat.zero_le _) (Nat.zero_le _) ?_
                refine jr_if_ne rfl (fun z => absurd (by decide) z) (fun _ => ?_)
                refine jr_ic rfl ?_
                refine jr_iret rfl rfl (Nat.zero_le _) (Nat.zero_le _) ?_
                first
                  | exact ⟨rfl, hRel0⟩
                  | (exfalso; omega)
                  | (exfalso; simp (disch := omega) only [Int32.lt_iff_toInt_lt, Int32.le_iff_toInt_le, ← Int32.toInt_inj, Int32.reduceToInt, nI_toInt] at c1RephasDue c5RephasDue m2MDisIn m5MDisIn m9MDisForgiven m2MDisIn_2; done)
                  | (exfalso; simp (disch := omega) only [Int32.lt_iff_toInt_lt, Int32.le_iff_toInt_le, ← Int32.toInt_inj, Int32.reduceToInt, nI_toInt] at c1RephasDue c5RephasDue m2MDisIn m5MDisIn m9MDisForgiven m2MDisIn_2; omega)
              · refine jr_iload rfl rfl ?_
                refine jr_iload rfl rfl ?_
                refine jr_icmp_gt rfl (fun m5MDisIn_2 => ?_) (fun m5MDisIn_2 => ?_)
                · refine jr_ic rfl ?_
                  refine jr_zret rfl rfl rfl (Nat.zero_le _) (Nat.zero_le _) ?_
                  refine jr_if_ne rfl (fun z => absurd (by decide) z) (fun _ => ?_)
                  refine jr_ic rfl ?_
                  refine jr_iret rfl rfl (Nat.zero_le _) (Nat.zero_le _) ?_
                  first
                    | exact ⟨rfl, hRel0⟩
                    | (exfalso; omega)
                    | (exfalso; simp (disch := omega) only [Int32.lt_iff_toInt_lt, Int32.le_iff_toInt_le, ← Int32.toInt_inj, Int32.reduceToInt, nI_toInt] at c1RephasDue c5RephasDue m2MDisIn m5MDisIn m9MDisForgiven m2MDisIn_2 m5MDisIn_2; done)
                    | (exfalso; simp (disch := omega) only [Int32.lt_iff_toInt_lt, Int32.le_iff_toInt_le, ← Int32.toInt_inj, Int32.reduceToInt, nI_toInt] at c1RephasDue c5RephasDue m2MDisIn m5MDisIn m9MDisForgiven m2MDisIn_2 m5MDisIn_2; omega)
                · refine jr_ic rfl ?_
                  refine jr_goto rfl ?_
                  refine jr_zret rfl rfl rfl (Nat.zero_le _) (Nat.zero_le _) ?_
                  refine jr_if_ne rfl (fun _ => ?_) (fun z => absurd z (by decide))
                  first
                    | (exfalso; omega)
                    | (exfalso; simp (disch := omega) only [Int32.lt_iff_toInt_lt, Int32.le_iff_toInt_le, ← Int32.toInt_inj, Int32.reduceToInt, nI_toInt] at c1RephasDue c5RephasDue m2MDisIn m5MDisIn m9MDisForgiven m2MDisIn_2 m5MDisIn_2; done)
                    | (exfalso; simp (disch := omega) only [Int32.lt_iff_toInt_lt, Int32.le_iff_toInt_le, ← Int32.toInt_inj, Int32.reduceToInt, nI_toInt] at c1RephasDue c5RephasDue m2MDisIn m5MDisIn m9MDisForgiven m2MDisIn_2 m5MDisIn_2; omega)
            · refine jr_ic rfl ?_
              refine jr_goto rfl ?_
              refine jr_zret rfl rfl rfl (Nat.zero_le _) (Nat.zero_le _) ?_
              refine jr_if_ne rfl (fun _ => ?_) (fun z => absurd z (by decide))
              refine jr_ic rfl ?_
              refine jr_iret rfl rfl (Nat.zero_le _) (Nat.zero_le _) ?_
              first
                | exact ⟨rfl, hRel0⟩
                | (exfalso; omega)
                | (exfalso; simp (disch := omega) only [Int32.lt_iff_toInt_lt, Int32.le_iff_toInt_le, ← Int32.toInt_inj, Int32.reduceToInt, nI_toInt] at c1RephasDue c5RephasDue m2MDisIn m5MDisIn m9MDisForgiven; done)
                | (exfalso; simp (disch := omega) only [Int32.lt_iff_toInt_lt, Int32.le_iff_toInt_le, ← Int32.toInt_inj, Int32.reduceToInt, nI_toInt] at c1RephasDue c5RephasDue m2MDisIn m5MDisIn m9MDisForgiven; omega)
      · refine jr_ic rfl ?_
        refine jr_goto rfl ?_
        refine jr_zret rfl rfl rfl (Nat.zero_le _) (Nat.zero_le _) ?_
        refine jr_if_eq rfl (fun z => absurd z (by decide)) (fun _ => ?_)
        refine jr_aload rfl rfl ?_
        refine jr_getR rfl rfl rfl rfl (Or.inl rfl) ?_
        refine jr_getR rfl rfl rfl rfl (Or.inl rfl) ?_
        refine jr_iload rfl rfl ?_
        refine jr_zald (len := 12) rfl rfl rfl (by omega) ?_
        rw [show jh_I hc 36 0 i = (jh_I hm 98 0 36 >>> (nI i &&& 31)) &&& 1 from e3]
        refine jr_if_eq rfl (fun c10 => ?_) (fun c10 => ?_)
        · refine jr_iload rfl rfl ?_
          refine jr_tsw rfl ?_
          refine ⟨fun c14 => ?_, fun n14_0 => ?_⟩
          · refine jr_aload rfl rfl ?_
            refine jr_getR rfl rfl rfl rfl (Or.inl rfl) ?_
            refine jr_aload rfl rfl ?_
            refine jr_getM rfl rfl rfl rfl hto ?_
            refine jr_iload rfl rfl ?_
            refine jr_cv1 (mc' := 0) (ms' := 0) rfl jm_Rep_dueAt_n jm_Rep_dueAt_f rfl rfl rfl rfl rfl rfl rfl (Nat.zero_le _) (Nat.zero_le _) ?_
            first
              | (exfalso; omega)
              | (exfalso; simp (disch := omega) only [Int32.lt_iff_toInt_lt, Int32.le_iff_toInt_le, ← Int32.toInt_inj, Int32.reduceToInt, nI_toInt] at c1RephasDue c5RephasDue c10 c14; done)
              | (exfalso; simp (disch := omega) only [Int32.lt_iff_toInt_lt, Int32.le_iff_toInt_le, ← Int32.toInt_inj, Int32.reduceToInt, nI_toInt] at c1RephasDue c5RephasDue c10 c14; omega)
          · skip
            refine ⟨fun c14 => ?_, fun n14_1 => ?_⟩
            · refine jr_aload rfl rfl ?_
              refine jr_getR rfl rfl rfl rfl (Or.inl rfl) ?_
              refine jr_aload rfl rfl ?_
              refine jr_getM rfl rfl rfl rfl hto ?_
              refine jr_iload rfl rfl ?_
              refine jr_cv1 (mc' := 0) (ms' := 0) rfl jm_Rep_dueAt_n jm_Rep_dueAt_f rfl rfl rfl rfl rfl rfl rfl (Nat.zero_le _) (Nat.zero_le _) ?_
              first
                | (exfalso; omega)
                | (exfalso; simp (disch := omega) only [Int32.lt_iff_toInt_lt, Int32.le_iff_toInt_le, ← Int32.toInt_inj, Int32.reduceToInt, nI_toInt] at c1RephasDue c5RephasDue c10 c14; done)
                | (exfalso; simp (disch := omega) only [Int32.lt_iff_toInt_lt, Int32.le_iff_toInt_le, ← Int32.toInt_inj, Int32.reduceToInt, nI_toInt] at c1RephasDue c5RephasDue c10 c14; omega)
            · skip
              refine ⟨fun c14 => ?_, fun n14_2 => ?_⟩
              · refine jr_aload rfl rfl ?_
                refine jr_getR rfl rfl rfl rfl (Or.inl rfl) ?_
                refine jr_aload rfl rfl ?_
                refine jr_getM rfl rfl rfl rfl hto ?_
                refine jr_iload rfl rfl ?_
                refine jr_cv1 (mc' := 0) (ms' := 0) rfl jm_Rep_dueAt_n jm_Rep_dueAt_f rfl rfl rfl rfl rfl rfl rfl (Nat.zero_le _) (Nat.zero_le _) ?_
                first
                  | (exfalso; omega)
                  | (exfalso; simp (disch := omega) only [Int32.lt_iff_toInt_lt, Int32.le_iff_toInt_le, ← Int32.toInt_inj, Int32.reduceToInt, nI_toInt] at c1RephasDue c5RephasDue c10 c14; done)
                  | (exfalso; simp (disch := omega) only [Int32.lt_iff_toInt_lt, Int32.le_iff_toInt_le, ← Int32.toInt_inj, Int32.reduceToInt, nI_toInt] at c1RephasDue c5RephasDue c10 c14; omega)
              · skip
                refine jr_ic rfl ?_
                refine jr_iret rfl rfl (Nat.zero_le _) (Nat.zero_le _) ?_
                show jx_W (jm_MD_span, d + 40, 0, 0, false, 1, _) _ 0 0 0 [some _, some _, some _, none, none, none, none, none] [] _
                refine jr_aload rfl rfl ?_
                refine jr_iload rfl rfl ?_
                refine jr_cv1 (mc' := 0) (ms' := 0) rfl jm_MD_isDue_n jm_MD_isDue_f rfl rfl rfl rfl rfl rfl rfl (Nat.zero_le _) (Nat.zero_le _) ?_
                show jx_W (jm_MD_isDue, _, _, _, _, _, _) _ 0 0 0 [some _, some _] [] _
                refine jr_iload rfl rfl ?_
                refine jr_ic rfl ?_
                refine jr_aload rfl rfl ?_
                refine jr_cv0 (mc' := 0) (ms' := 0) rfl jm_MD_dueMany_n jm_MD_dueMany_f rfl rfl rfl rfl rfl rfl rfl (Nat.zero_le _) (Nat.zero_le _) ?_
                show jx_W (jm_MD_dueMany, _, _, _, _, _, _) _ 0 0 0 [some _] [] _
                refine jr_aload rfl rfl ?_
                refine jr_getR rfl rfl rfl rfl (Or.inl rfl) ?_
                refine jr_aload rfl rfl ?_
                refine jr_getI rfl rfl ?_
                refine jr_iald (len := 2) rfl rfl hw.1 (by omega) ?_
                refine jr_iret rfl rfl (Nat.zero_le _) (Nat.zero_le _) ?_
                refine jr_ic rfl ?_
                refine jr_isub rfl ?_
                refine jr_cs3 (mc' := 0) (ms' := 0) rfl jm_MD_isIn_n jm_MD_isIn_f rfl rfl rfl rfl rfl (Nat.zero_le _) (Nat.zero_le _) ?_
                show jx_W (jm_MD_isIn, _, _, _, _, _, _) _ 0 0 0 [some _, some _, some _] [] _
                refine jr_iload rfl rfl ?_
                refine jr_iload rfl rfl ?_
                refine jr_icmp_lt rfl (fun m2MDisIn => ?_) (fun m2MDisIn => ?_)
                · refine jr_ic rfl ?_
                  refine jr_zret rfl rfl rfl (Nat.zero_le _) (Nat.zero_le _) ?_
                  refine jr_zret rfl rfl rfl (Nat.zero_le _) (Nat.zero_le _) ?_
                  refine jr_if_eq rfl (fun _ => ?_) (fun z => absurd (by decide) z)
                  refine jr_ic rfl ?_
                  refine jr_iret rfl rfl (Nat.zero_le _) (Nat.zero_le _) ?_
                  first
                    | exact ⟨rfl, hRel0⟩
                    | (exfalso; omega)
                    | (exfalso; simp (disch := omega) only [Int32.lt_iff_toInt_lt, Int32.le_iff_toInt_le, ← Int32.toInt_inj, Int32.reduceToInt, nI_toInt] at c1RephasDue c5RephasDue c10 m2MDisIn; done)
                    | (exfalso; simp (disch := omega) only [Int32.lt_iff_toInt_lt, Int32.le_iff_toInt_le, ← Int32.toInt_inj, Int32.reduceToInt, nI_toInt] at c1RephasDue c5RephasDue c10 m2MDisIn; omega)
                · refine jr_iload rfl rfl ?_
                  refine jr_iload rfl rfl ?_
                  refine jr_icmp_gt rfl (fun m5MDisIn => ?_) (fun m5MDisIn => ?_)
                  · refine jr_ic rfl ?_
                    refine jr_zret rfl rfl rfl (Nat.zero_le _) (Nat.zero_le _) ?_
                    refine jr_zret rfl rfl rfl (Nat.zero_le _) (Nat.zero_le _) ?_
                    refine jr_if_eq rfl (fun _ => ?_) (fun z => absurd (by decide) z)
                    refine jr_ic rfl ?_
                    refine jr_iret rfl rfl (Nat.zero_le _) (Nat.zero_le _) ?_
                    first
                      | exact ⟨rfl, hRel0⟩
                      | (exfalso; omega)
                      | (exfalso; simp (disch := omega) only [Int32.lt_iff_toInt_lt, Int32.le_iff_toInt_le, ← Int32.toInt_inj, Int32.reduceToInt, nI_toInt] at c1RephasDue c5RephasDue c10 m2MDisIn m5MDisIn; done)
                      | (exfalso; simp (disch := omega) only [Int32.lt_iff_toInt_lt, Int32.le_iff_toInt_le, ← Int32.toInt_inj, Int32.reduceToInt, nI_toInt] at c1RephasDue c5RephasDue c10 m2MDisIn m5MDisIn; omega)
                  · refine jr_ic rfl ?_
                    refine jr_goto rfl ?_
                    refine jr_zret rfl rfl rfl (Nat.zero_le _) (Nat.zero_le _) ?_
                    refine jr_zret rfl rfl rfl (Nat.zero_le _) (Nat.zero_le _) ?_
                    refine jr_if_eq rfl (fun z => absurd z (by decide)) (fun _ => ?_)
                    refine jr_aload rfl rfl ?_
                    refine jr_iload rfl rfl ?_
                    refine jr_cv1 (mc' := 0) (ms' := 0) rfl jm_MD_isForgiven_n jm_MD_isForgiven_f rfl rfl rfl rfl rfl rfl rfl (Nat.zero_le _) (Nat.zero_le _) ?_
                    show jx_W (jm_MD_isForgiven, _, _, _, _, _, _) _ 0 0 0 [some _, some _] [] _
                    refine jr_aload rfl rfl ?_
                    refine jr_getR rfl rfl rfl rfl (Or.inl rfl) ?_
                    refine jr_ic rfl ?_
                    refine jr_iald (len := 337) rfl rfl (show _ = nI 36 from rfl) (by decide) ?_
                    refine jr_iload rfl rfl ?_
                    refine jr_ishr rfl ?_
                    refine jr_ic rfl ?_
                    refine jr_iand rfl ?_
                    refine jr_ic rfl ?_
                    refine jr_icmp_ne rfl (fun m9MDisForgiven => ?_) (fun m9MDisForgiven => ?_)
                    · refine jr_ic rfl ?_
                      refine jr_zret rfl rfl rfl (Nat.zero_le _) (Nat.zero_le _) ?_
                      refine jr_if_ne rfl (fun z => absurd (by decide) z) (fun _ => ?_)
                      refine jr_iload rfl rfl ?_
                      refine jr_ic rfl ?_
                      refine jr_ic rfl ?_
                      refine jr_cs3 (mc' := 0) (ms' := 0) rfl jm_MD_isIn_n jm_MD_isIn_f rfl rfl rfl rfl rfl (Nat.zero_le _) (Nat.zero_le _) ?_
                      show jx_W (jm_MD_isIn, _, _, _, _, _, _) _ 0 0 0 [some _, some _, some _] [] _
                      refine jr_iload rfl rfl ?_
                      refine jr_iload rfl rfl ?_
                      refine jr_icmp_lt rfl (fun m2MDisIn_2 => ?_) (fun m2MDisIn_2 => ?_)
                      · refine jr_ic rfl ?_
                        refine jr_zret rfl rfl rfl (Nat.zero_le _) (Nat.zero_le _) ?_
                        refine jr_if_ne rfl (fun z => absurd (by decide) z) (fun _ => ?_)
                        refine jr_ic rfl ?_
                        refine jr_iret rfl rfl (Nat.zero_le _) (Nat.zero_le _) ?_
                        first
                          | exact ⟨rfl, hRel0⟩
                          | (exfalso; omega)
                          | (exfalso; simp (disch := omega) only [Int32.lt_iff_toInt_lt, Int32.le_iff_toInt_le, ← Int32.toInt_inj, Int32.reduceToInt, nI_toInt] at c1RephasDue c5RephasDue c10 m2MDisIn m5MDisIn m9MDisForgiven m2MDisIn_2; done)
                          | (exfalso; simp (disch := omega) only [Int32.lt_iff_toInt_lt, Int32.le_iff_toInt_le, ← Int32.toInt_inj, Int32.reduceToInt, nI_toInt] at c1RephasDue c5RephasDue c10 m2MDisIn m5MDisIn m9MDisForgiven m2MDisIn_2; omega)
                      · refine jr_iload rfl rfl ?_
                        refine jr_iload rfl rfl ?_
                        refine jr_icmp_gt rfl (fun m5MDisIn_2 => ?_) (fun m5MDisIn_2 => ?_)
                        · refine jr_ic rfl ?_
                          refine jr_zret rfl rfl rfl (Nat.zero_le _) (Nat.zero_le _) ?_
                          refine jr_if_ne rfl (fun z => absurd (by decide) z) (fun _ => ?_)
                          refine jr_ic rfl ?_
                          refine jr_iret rfl rfl (Nat.zero_le _) (Nat.zero_le _) ?_
                          first
                            | exact ⟨rfl, hRel0⟩
                            | (exfalso; omega)
                            | (exfalso; simp (disch := omega) only [Int32.lt_iff_toInt_lt, Int32.le_iff_toInt_le, ← Int32.toInt_inj, Int32.reduceToInt, nI_toInt] at c1RephasDue c5RephasDue c10 m2MDisIn m5MDisIn m9MDisForgiven m2MDisIn_2 m5MDisIn_2; done)
                            | (exfalso; simp (disch := omega) only [Int32.lt_iff_toInt_lt, Int32.le_iff_toInt_le, ← Int32.toInt_inj, Int32.reduceToInt, nI_toInt] at c1RephasDue c5RephasDue c10 m2MDisIn m5MDisIn m9MDisForgiven m2MDisIn_2 m5MDisIn_2; omega)
                        · refine jr_ic rfl ?_
                          refine jr_goto rfl ?_
                          refine jr_zret rfl rfl rfl (Nat.zero_le _) (Nat.zero_le _) ?_
                          refine jr_if_ne rfl (fun _ => ?_) (fun z => absurd z (by decide))
                          first
                            | (exfalso; omega)
                            | (exfalso; simp (disch := omega) only [Int32.lt_iff_toInt_lt, Int32.le_iff_toInt_le, ← Int32.toInt_inj, Int32.reduceToInt, nI_toInt] at c1RephasDue c5RephasDue c10 m2MDisIn m5MDisIn m9MDisForgiven m2MDisIn_2 m5MDisIn_2; done)
                            | (exfalso; simp (disch := omega) only [Int32.lt_iff_toInt_lt, Int32.le_iff_toInt_le, ← Int32.toInt_inj, Int32.reduceToInt, nI_toInt] at c1RephasDue c5RephasDue c10 m2MDisIn m5MDisIn m9MDisForgiven m2MDisIn_2 m5MDisIn_2; omega)
                    · refine jr_ic rfl ?_
                      refine jr_goto rfl ?_
                      refine jr_zret rfl rfl rfl (Nat.zero_le _) (Nat.zero_le _) ?_
                      refine jr_if_ne rfl (fun _ => ?_) (fun z => absurd z (by decide))
                      refine jr_ic rfl ?_
                      refine jr_iret rfl rfl (Nat.zero_le _) (Nat.zero_le _) ?_
                      first
                        | exact ⟨rfl, hRel0⟩
                        | (exfalso; omega)
                        | (exfalso; simp (disch := omega) only [Int32.lt_iff_toInt_lt, Int32.le_iff_toInt_le, ← Int32.toInt_inj, Int32.reduceToInt, nI_toInt] at c1RephasDue c5RephasDue c10 m2MDisIn m5MDisIn m9MDisForgiven; done)
                        | (exfalso; simp (disch := omega) only [Int32.lt_iff_toInt_lt, Int32.le_iff_toInt_le, ← Int32.toInt_inj, Int32.reduceToInt, nI_toInt] at c1RephasDue c5RephasDue c10 m2MDisIn m5MDisIn m9MDisForgiven; omega)
        · refine jr_ic rfl ?_
          refine jr_iret rfl rfl (Nat.zero_le _) (Nat.zero_le _) ?_
          show jx_W (jm_MD_span, d + 40, 0, 0, false, 1, _) _ 0 0 0 [some _, some _, some _, none, none, none, none, none] [] _
          refine jr_aload rfl rfl ?_
          refine jr_iload rfl rfl ?_
          refine jr_cv1 (mc' := 0) (ms' := 0) rfl jm_MD_isDue_n jm_MD_isDue_f rfl rfl rfl rfl rfl rfl rfl (Nat.zero_le _) (Nat.zero_le _) ?_
          show jx_W (jm_MD_isDue, _, _, _, _, _, _) _ 0 0 0 [some _, some _] [] _
          refine jr_iload rfl rfl ?_
          refine jr_ic rfl ?_
          refine jr_aload rfl rfl ?_
          refine jr_cv0 (mc' := 0) (ms' := 0) rfl jm_MD_dueMany_n jm_MD_dueMany_f rfl rfl rfl rfl rfl rfl rfl (Nat.zero_le _) (Nat.zero_le _) ?_
          show jx_W (jm_MD_dueMany, _, _, _, _, _, _) _ 0 0 0 [some _] [] _
          refine jr_aload rfl rfl ?_
          refine jr_getR rfl rfl rfl rfl (Or.inl rfl) ?_
          refine jr_aload rfl rfl ?_
          refine jr_getI rfl rfl ?_
          refine jr_iald (len := 2) rfl rfl hw.1 (by omega) ?_
          refine jr_iret rfl rfl (Nat.zero_le _) (Nat.zero_le _) ?_
          refine jr_ic rfl ?_
          refine jr_isub rfl ?_
          refine jr_cs3 (mc' := 0) (ms' := 0) rfl jm_MD_isIn_n jm_MD_isIn_f rfl rfl rfl rfl rfl (Nat.zero_le _) (Nat.zero_le _) ?_
          show jx_W (jm_MD_isIn, _, _, _, _, _, _) _ 0 0 0 [some _, some _, some _] [] _
          refine jr_iload rfl rfl ?_
          refine jr_iload rfl rfl ?_
          refine jr_icmp_lt rfl (fun m2MDisIn => ?_) (fun m2MDisIn => ?_)
          · refine jr_ic rfl ?_
            refine jr_zret rfl rfl rfl (Nat.zero_le _) (Nat.zero_le _) ?_
            refine jr_zret rfl rfl rfl (Nat.zero_le _) (Nat.zero_le _) ?_
            refine jr_if_eq rfl (fun _ => ?_) (fun z => absurd (by decide) z)
            refine jr_ic rfl ?_
            refine jr_iret rfl rfl (Nat.zero_le _) (Nat.zero_le _) ?_
            first
              | exact ⟨rfl, hRel0⟩
              | (exfalso; omega)
              | (exfalso; simp (disch := omega) only [Int32.lt_iff_toInt_lt, Int32.le_iff_toInt_le, ← Int32.toInt_inj, Int32.reduceToInt, nI_toInt] at c1RephasDue c5RephasDue c10 m2MDisIn; done)
              | (exfalso; simp (disch := omega) only [Int32.lt_iff_toInt_lt, Int32.le_iff_toInt_le, ← Int32.toInt_inj, Int32.reduceToInt, nI_toInt] at c1RephasDue c5RephasDue c10 m2MDisIn; omega)
          · refine jr_iload rfl rfl ?_
            refine jr_iload rfl rfl ?_
            refine jr_icmp_gt rfl (fun m5MDisIn => ?_) (fun m5MDisIn => ?_)
            · refine jr_ic rfl ?_
              refine jr_zret rfl rfl rfl (Nat.zero_le _) (Nat.zero_le _) ?_
              refine jr_zret rfl rfl rfl (Nat.zero_le _) (Nat.zero_le _) ?_
              refine jr_if_eq rfl (fun _ => ?_) (fun z => absurd (by decide) z)
              refine jr_ic rfl ?_
              refine jr_iret rfl rfl (Nat.zero_le _) (Nat.zero_le _) ?_
              first
                | exact ⟨rfl, hRel0⟩
                | (exfalso; omega)
                | (exfalso; simp (disch := omega) only [Int32.lt_iff_toInt_lt, Int32.le_iff_toInt_le, ← Int32.toInt_inj, Int32.reduceToInt, nI_toInt] at c1RephasDue c5RephasDue c10 m2MDisIn m5MDisIn; done)
                | (exfalso; simp (disch := omega) only [Int32.lt_iff_toInt_lt, Int32.le_iff_toInt_le, ← Int32.toInt_inj, Int32.reduceToInt, nI_toInt] at c1RephasDue c5RephasDue c10 m2MDisIn m5MDisIn; omega)
            · refine jr_ic rfl ?_
              refine jr_goto rfl ?_
              refine jr_zret rfl rfl rfl (Nat.zero_le _) (Nat.zero_le _) ?_
              refine jr_zret rfl rfl rfl (Nat.zero_le _) (Nat.zero_le _) ?_
              refine jr_if_eq rfl (fun z => absurd z (by decide)) (fun _ => ?_)
              refine jr_aload rfl rfl ?_
              refine jr_iload rfl rfl ?_
              refine jr_cv1 (mc' := 0) (ms' := 0) rfl jm_MD_isForgiven_n jm_MD_isForgiven_f rfl rfl rfl rfl rfl rfl rfl (Nat.zero_le _) (Nat.zero_le _) ?_
              show jx_W (jm_MD_isForgiven, _, _, _, _, _, _) _ 0 0 0 [some _, some _] [] _
              refine jr_aload rfl rfl ?_
              refine jr_getR rfl rfl rfl rfl (Or.inl rfl) ?_
              refine jr_ic rfl ?_
              refine jr_iald (len := 337) rfl rfl (show _ = nI 36 from rfl) (by decide) ?_
              refine jr_iload rfl rfl ?_
              refine jr_ishr rfl ?_
              refine jr_ic rfl ?_
              refine jr_iand rfl ?_
              refine jr_ic rfl ?_
              refine jr_icmp_ne rfl (fun m9MDisForgiven => ?_) (fun m9MDisForgiven => ?_)
              · refine jr_ic rfl ?_
                refine jr_zret rfl rfl rfl (Nat.zero_le _) (Nat.zero_le _) ?_
                refine jr_if_ne rfl (fun z => absurd (by decide) z) (fun _ => ?_)
                refine jr_iload rfl rfl ?_
                refine jr_ic rfl ?_
                refine jr_ic rfl ?_
                refine jr_cs3 (mc' := 0) (ms' := 0) rfl jm_MD_isIn_n jm_MD_isIn_f rfl rfl rfl rfl rfl (Nat.zero_le _) (Nat.zero_le _) ?_
                show jx_W (jm_MD_isIn, _, _, _, _, _, _) _ 0 0 0 [some _, some _, some _] [] _
                refine jr_iload rfl rfl ?_
                refine jr_iload rfl rfl ?_
                refine jr_icmp_lt rfl (fun m2MDisIn_2 => ?_) (fun m2MDisIn_2 => ?_)
                · refine jr_ic rfl ?_
                  refine jr_zret rfl rfl rfl (Nat.zero_le _) (Nat.zero_le _) ?_
                  refine jr_if_ne rfl (fun z => absurd (by decide) z) (fun _ => ?_)
                  refine jr_ic rfl ?_
                  refine jr_iret rfl rfl (Nat.zero_le _) (Nat.zero_le _) ?_
                  first
                    | exact ⟨rfl, hRel0⟩
                    | (exfalso; omega)
                    | (exfalso; simp (disch := omega) only [Int32.lt_iff_toInt_lt, Int32.le_iff_toInt_le, ← Int32.toInt_inj, Int32.reduceToInt, nI_toInt] at c1RephasDue c5RephasDue c10 m2MDisIn m5MDisIn m9MDisForgiven m2MDisIn_2; done)
                    | (exfalso; simp (disch := omega) only [Int32.lt_iff_toInt_lt, Int32.le_iff_toInt_le, ← Int32.toInt_inj, Int32.reduceToInt, nI_toInt] at c1RephasDue c5RephasDue c10 m2MDisIn m5MDisIn m9MDisForgiven m2MDisIn_2; omega)
                · refine jr_iload rfl rfl ?_
                  refine jr_iload rfl rfl ?_
                  refine jr_icmp_gt rfl (fun m5MDisIn_2 => ?_) (fun m5MDisIn_2 => ?_)
                  · refine jr_ic rfl ?_
                    refine jr_zret rfl rfl rfl (Nat.zero_le _) (Nat.zero_le _) ?_
                    refine jr_if_ne rfl (fun z => absurd (by decide) z) (fun _ => ?_)
                    refine jr_ic rfl ?_
                    refine jr_iret rfl rfl (Nat.zero_le _) (Nat.zero_le _) ?_
                    first
                      | exact ⟨rfl, hRel0⟩
                      | (exfalso; omega)
                      | (exfalso; simp (disch := omega) only [Int32.lt_iff_toInt_lt, Int32.le_iff_toInt_le, ← Int32.toInt_inj, Int32.reduceToInt, nI_toInt] at c1RephasDue c5RephasDue c10 m2MDisIn m5MDisIn m9MDisForgiven m2MDisIn_2 m5MDisIn_2; done)
                      | (exfalso; simp (disch := omega) only [Int32.lt_iff_toInt_lt, Int32.le_iff_toInt_le, ← Int32.toInt_inj, Int32.reduceToInt, nI_toInt] at c1RephasDue c5RephasDue c10 m2MDisIn m5MDisIn m9MDisForgiven m2MDisIn_2 m5MDisIn_2; omega)
                  · refine jr_ic rfl ?_
                    refine jr_goto rfl ?_
                    refine jr_zret rfl rfl rfl (Nat.zero_le _) (Nat.zero_le _) ?_
                    refine jr_if_ne rfl (fun _ => ?_) (fun z => absurd z (by decide))
                    first
                      | (exfalso; omega)
                      | (exfalso; simp (disch := omega) only [Int32.lt_iff_toInt_lt, Int32.le_iff_toInt_le, ← Int32.toInt_inj, Int32.reduceToInt, nI_toInt] at c1RephasDue c5RephasDue c10 m2MDisIn m5MDisIn m9MDisForgiven m2MDisIn_2 m5MDisIn_2; done)
                      | (exfalso; simp (disch := omega) only [Int32.lt_iff_toInt_lt, Int32.le_iff_toInt_le, ← Int32.toInt_inj, Int32.reduceToInt, nI_toInt] at c1RephasDue c5RephasDue c10 m2MDisIn m5MDisIn m9MDisForgiven m2MDisIn_2 m5MDisIn_2; omega)
              · refine jr_ic rfl ?_
                refine jr_goto rfl ?_
                refine jr_zret rfl rfl rfl (Nat.zero_le _) (Nat.zero_le _) ?_
                refine jr_if_ne rfl (fun _ => ?_) (fun z => absurd z (by decide))
                refine jr_ic rfl ?_
                refine jr_iret rfl rfl (Nat.zero_le _) (Nat.zero_le _) ?_
                first
                  | exact ⟨rfl, hRel0⟩
                  | (exfalso; omega)
                  | (exfalso; simp (disch := omega) only [Int32.lt_iff_toInt_lt, Int32.le_iff_toInt_le, ← Int32.toInt_inj, Int32.reduceToInt, nI_toInt] at c1RephasDue c5RephasDue c10 m2MDisIn m5MDisIn m9MDisForgiven; done)
                  | (exfalso; simp (disch := omega) only [Int32.lt_iff_toInt_lt, Int32.le_iff_toInt_le, ← Int32.toInt_inj, Int32.reduceToInt, nI_toInt] at c1RephasDue c5RephasDue c10 m2MDisIn m5MDisIn m9MDisForgiven; omega)
  · show jx_W (jm_JV_span, d + 40, 0, 0, false, 0, _) _ 0 0 0 [some (jv_r 10 0), some (jv_i x), some (jv_i y)] [] _
    refine jr_aload rfl rfl ?_
    refine jr_getM rfl rfl rfl rfl hto ?_
    refine jr_iload rfl rfl ?_
    refine jr_cv1 (mc' := 0) (ms' := 0) rfl jm_Rep_hasDue_n jm_Rep_hasDue_f rfl rfl rfl rfl rfl rfl rfl (Nat.zero_le _) (Nat.zero_le _) ?_
    show jx_W (jm_Rep_hasDue, _, _, _, _, _, _) _ 0 0 0 [some _, some _] [] _
    refine jr_iload rfl rfl ?_
    refine jr_if_lt rfl (fun c1RephasDue => ?_) (fun c1RephasDue => ?_)
    · refine jr_ic rfl ?_
      refine jr_zret rfl rfl rfl (Nat.zero_le _) (Nat.zero_le _) ?_
      refine jr_if_eq rfl (fun _ => ?_) (fun z => absurd (by decide) z)
      refine jr_ic rfl ?_
      refine jr_iret rfl rfl (Nat.zero_le _) (Nat.zero_le _) ?_
      show jx_W (jm_MD_span, d + 40, 0, 0, false, 1, _) _ 0 0 0 [some _, some _, some _, none, none, none, none, none] [] _
      refine jr_aload rfl rfl ?_
      refine jr_iload rfl rfl ?_
      refine jr_cv1 (mc' := 0) (ms' := 0) rfl jm_MD_isDue_n jm_MD_isDue_f rfl rfl rfl rfl rfl rfl rfl (Nat.zero_le _) (Nat.zero_le _) ?_
      show jx_W (jm_MD_isDue, _, _, _, _, _, _) _ 0 0 0 [some _, some _] [] _
      refine jr_iload rfl rfl ?_
      refine jr_ic rfl ?_
      refine jr_aload rfl rfl ?_
      refine jr_cv0 (mc' := 0) (ms' := 0) rfl jm_MD_dueMany_n jm_MD_dueMany_f rfl rfl rfl rfl rfl rfl rfl (Nat.zero_le _) (Nat.zero_le _) ?_
      show jx_W (jm_MD_dueMany, _, _, _, _, _, _) _ 0 0 0 [some _] [] _
      refine jr_aload rfl rfl ?_
      refine jr_getR rfl rfl rfl rfl (Or.inl rfl) ?_
      refine jr_aload rfl rfl ?_
      refine jr_getI rfl rfl ?_
      refine jr_iald (len := 2) rfl rfl hw.1 (by omega) ?_
      refine jr_iret rfl rfl (Nat.zero_le _) (Nat.zero_le _) ?_
      refine jr_ic rfl ?_
      refine jr_isub rfl ?_
      refine jr_cs3 (mc' := 0) (ms' := 0) rfl jm_MD_isIn_n jm_MD_isIn_f rfl rfl rfl rfl rfl (Nat.zero_le _) (Nat.zero_le _) ?_
      show jx_W (jm_MD_isIn, _, _, _, _, _, _) _ 0 0 0 [some _, some _, some _] [] _
      refine jr_iload rfl rfl ?_
      refine jr_iload rfl rfl ?_
      refine jr_icmp_lt rfl (fun m2MDisIn => ?_) (fun m2MDisIn => ?_)
      · refine jr_ic rfl ?_
        refine jr_zret rfl rfl rfl (Nat.zero_le _) (Nat.zero_le _) ?_
        refine jr_zret rfl rfl rfl (Nat.zero_le _) (Nat.zero_le _) ?_
        refine jr_if_eq rfl (fun _ => ?_) (fun z => absurd (by decide) z)
        refine jr_ic rfl ?_
        refine jr_iret rfl rfl (Nat.zero_le _) (Nat.zero_le _) ?_
        first
          | exact ⟨rfl, hRel0⟩
          | (exfalso; omega)
          | (exfalso; simp (disch := omega) only [Int32.lt_iff_toInt_lt, Int32.le_iff_toInt_le, ← Int32.toInt_inj, Int32.reduceToInt, nI_toInt] at c1RephasDue m2MDisIn; done)
          | (exfalso; simp (disch := omega) only [Int32.lt_iff_toInt_lt, Int32.le_iff_toInt_le, ← Int32.toInt_inj, Int32.reduceToInt, nI_toInt] at c1RephasDue m2MDisIn; omega)
      · refine jr_iload rfl rfl ?_
        refine jr_iload rfl rfl ?_
        refine jr_icmp_gt rfl (fun m5MDisIn => ?_) (fun m5MDisIn => ?_)
        · refine jr_ic rfl ?_
          refine jr_zret rfl rfl rfl (Nat.zero_le _) (Nat.zero_le _) ?_
          refine jr_zret rfl rfl rfl (Nat.zero_le _) (Nat.zero_le _) ?_
          refine jr_if_eq rfl (fun _ => ?_) (fun z => absurd (by decide) z)
          refine jr_ic rfl ?_
          refine jr_iret rfl rfl (Nat.zero_le _) (Nat.zero_le _) ?_
          first
            | exact ⟨rfl, hRel0⟩
            | (exfalso; omega)
            | (exfalso; simp (disch := omega) only [Int32.lt_iff_toInt_lt, Int32.le_iff_toInt_le, ← Int32.toInt_inj, Int32.reduceToInt, nI_toInt] at c1RephasDue m2MDisIn m5MDisIn; done)
            | (exfalso; simp (disch := omega) only [Int32.lt_iff_toInt_lt, Int32.le_iff_toInt_le, ← Int32.toInt_inj, Int32.reduceToInt, nI_toInt] at c1RephasDue m2MDisIn m5MDisIn; omega)
        · refine jr_ic rfl ?_
          refine jr_goto rfl ?_
          refine jr_zret rfl rfl rfl (Nat.zero_le _) (Nat.zero_le _) ?_
          refine jr_zret rfl rfl rfl (Nat.zero_le _) (Nat.zero_le _) ?_
          refine jr_if_eq rfl (fun z => absurd z (by decide)) (fun _ => ?_)
          refine jr_aload rfl rfl ?_
          refine jr_iload rfl rfl ?_
          refine jr_cv1 (mc' := 0) (ms' := 0) rfl jm_MD_isForgiven_n jm_MD_isForgiven_f rfl rfl rfl rfl rfl rfl rfl (Nat.zero_le _) (Nat.zero_le _) ?_
          show jx_W (jm_MD_isForgiven, _, _, _, _, _, _) _ 0 0 0 [some _, some _] [] _
          refine jr_aload rfl rfl ?_
          refine jr_getR rfl rfl rfl rfl (Or.inl rfl) ?_
          refine jr_ic rfl ?_
          refine jr_iald (len := 337) rfl rfl (show _ = nI 36 from rfl) (by decide) ?_
          refine jr_iload rfl rfl ?_
          refine jr_ishr rfl ?_
          refine jr_ic rfl ?_
          refine jr_iand rfl ?_
          refine jr_ic rfl ?_
          refine jr_icmp_ne rfl (fun m9MDisForgiven => ?_) (fun m9MDisForgiven => ?_)
          · refine jr_ic rfl ?_
            refine jr_zret rfl rfl rfl (Nat.zero_le _) (Nat.zero_le _) ?_
            refine jr_if_ne rfl (fun z => absurd (by decide) z) (fun _ => ?_)
            refine jr_iload rfl rfl ?_
            refine jr_ic rfl ?_
            refine jr_ic rfl ?_
            refine jr_cs3 (mc' := 0) (ms' := 0) rfl jm_MD_isIn_n jm_MD_isIn_f rfl rfl rfl rfl rfl (Nat.zero_le _) (Nat.zero_le _) ?_
            show jx_W (jm_MD_isIn, _, _, _, _, _, _) _ 0 0 0 [some _, some _, some _] [] _
            refine jr_iload rfl rfl ?_
            refine jr_iload rfl rfl ?_
            refine jr_icmp_lt rfl (fun m2MDisIn_2 => ?_) (fun m2MDisIn_2 => ?_)
            · refine jr_ic rfl ?_
              refine jr_zret rfl rfl rfl (Nat.zero_le _) (Nat.zero_le _) ?_
              refine jr_if_ne rfl (fun z => absurd (by decide) z) (fun _ => ?_)
              refine jr_ic rfl ?_
              refine jr_iret rfl rfl (Nat.zero_le _) (Nat.zero_le _) ?_
              first
                | exact ⟨rfl, hRel0⟩
                | (exfalso; omega)
                | (exfalso; simp (disch := omega) only [Int32.lt_iff_toInt_lt, Int32.le_iff_toInt_le, ← Int32.toInt_inj, Int32.reduceToInt, nI_toInt] at c1RephasDue m2MDisIn m5MDisIn m9MDisForgiven m2MDisIn_2; done)
                | (exfalso; simp (disch := omega) only [Int32.lt_iff_toInt_lt, Int32.le_iff_toInt_le, ← Int32.toInt_inj, Int32.reduceToInt, nI_toInt] at c1RephasDue m2MDisIn m5MDisIn m9MDisForgiven m2MDisIn_2; omega)
            · refine jr_iload rfl rfl ?_
              refine jr_iload rfl rfl ?_
              refine jr_icmp_gt rfl (fun m5MDisIn_2 => ?_) (fun m5MDisIn_2 => ?_)
              · refine jr_ic rfl ?_
                refine jr_zret rfl rfl rfl (Nat.zero_le _) (Nat.zero_le _) ?_
                refine jr_if_ne rfl (fun z => absurd (by decide) z) (fun _ => ?_)
                refine jr_ic rfl ?_
                refine jr_iret rfl rfl (Nat.zero_le _) (Nat.zero_le _) ?_
                first
                  | exact ⟨rfl, hRel0⟩
                  | (exfalso; omega)
                  | (exfalso; simp (disch := omega) only [Int32.lt_iff_toInt_lt, Int32.le_iff_toInt_le, ← Int32.toInt_inj, Int32.reduceToInt, nI_toInt] at c1RephasDue m2MDisIn m5MDisIn m9MDisForgiven m2MDisIn_2 m5MDisIn_2; done)
                  | (exfalso; simp (disch := omega) only [Int32.lt_iff_toInt_lt, Int32.le_iff_toInt_le, ← Int32.toInt_inj, Int32.reduceToInt, nI_toInt] at c1RephasDue m2MDisIn m5MDisIn m9MDisForgiven m2MDisIn_2 m5MDisIn_2; omega)
              · refine jr_ic rfl ?_
                refine jr_goto rfl ?_
                refine jr_zret rfl rfl rfl (Nat.zero_le _) (Nat.zero_le _) ?_
                refine jr_if_ne rfl (fun _ => ?_) (fun z => absurd z (by decide))
                first
                  | (exfalso; omega)
                  | (exfalso; simp (disch := omega) only [Int32.lt_iff_toInt_lt, Int32.le_iff_toInt_le, ← Int32.toInt_inj, Int32.reduceToInt, nI_toInt] at c1RephasDue m2MDisIn m5MDisIn m9MDisForgiven m2MDisIn_2 m5MDisIn_2; done)
                  | (exfalso; simp (disch := omega) only [Int32.lt_iff_toInt_lt, Int32.le_iff_toInt_le, ← Int32.toInt_inj, Int32.reduceToInt, nI_toInt] at c1RephasDue m2MDisIn m5MDisIn m9MDisForgiven m2MDisIn_2 m5MDisIn_2; omega)
          · refine jr_ic rfl ?_
            refine jr_goto rfl ?_
            refine jr_zret rfl rfl rfl (Nat.zero_le _) (Nat.zero_le _) ?_
            refine jr_if_ne rfl (fun _ => ?_) (fun z => absurd z (by decide))
            refine jr_ic rfl ?_
            refine jr_iret rfl rfl (Nat.zero_le _) (Nat.zero_le _) ?_
            first
              | exact ⟨rfl, hRel0⟩
              | (exfalso; omega)
              | (exfalso; simp (disch := omega) only [Int32.lt_iff_toInt_lt, Int32.le_iff_toInt_le, ← Int32.toInt_inj, Int32.reduceToInt, nI_toInt] at c1RephasDue m2MDisIn m5MDisIn m9MDisForgiven; done)
              | (exfalso; simp (disch := omega) only [Int32.lt_iff_toInt_lt, Int32.le_iff_toInt_le, ← Int32.toInt_inj, Int32.reduceToInt, nI_toInt] at c1RephasDue m2MDisIn m5MDisIn m9MDisForgiven; omega)
    · refine jr_iload rfl rfl ?_
      refine jr_aload rfl rfl ?_
      refine jr_getI rfl rfl ?_
      refine jr_icmp_ge rfl (fun c5RephasDue => ?_) (fun c5RephasDue => ?_)
      · refine jr_ic rfl ?_
        refine jr_zret rfl rfl rfl (Nat.zero_le _) (Nat.zero_le _) ?_
        refine jr_if_eq rfl (fun _ => ?_) (fun z => absurd (by decide) z)
        refine jr_ic rfl ?_
        refine jr_iret rfl rfl (Nat.zero_le _) (Nat.zero_le _) ?_
        show jx_W (jm_MD_span, d + 40, 0, 0, false, 1, _) _ 0 0 0 [some _, some _, some _, none, none, none, none, none] [] _
        refine jr_aload rfl rfl ?_
        refine jr_iload rfl rfl ?_
        refine jr_cv1 (mc' := 0) (ms' := 0) rfl jm_MD_isDue_n jm_MD_isDue_f rfl rfl rfl rfl rfl rfl rfl (Nat.zero_le _) (Nat.zero_le _) ?_
        show jx_W (jm_MD_isDue, _, _, _, _, _, _) _ 0 0 0 [some _, some _] [] _
        refine jr_iload rfl rfl ?_
        refine jr_ic rfl ?_
        refine jr_aload rfl rfl ?_
        refine jr_cv0 (mc' := 0) (ms' := 0) rfl jm_MD_dueMany_n jm_MD_dueMany_f rfl rfl rfl rfl rfl rfl rfl (Nat.zero_le _) (Nat.zero_le _) ?_
        show jx_W (jm_MD_dueMany, _, _, _, _, _, _) _ 0 0 0 [some _] [] _
        refine jr_aload rfl rfl ?_
        refine jr_getR rfl rfl rfl rfl (Or.inl rfl) ?_
        refine jr_aload rfl rfl ?_
        refine jr_getI rfl rfl ?_
        refine jr_iald (len := 2) rfl rfl hw.1 (by omega) ?_
        refine jr_iret rfl rfl (Nat.zero_le _) (Nat.zero_le _) ?_
        refine jr_ic rfl ?_
        refine jr_isub rfl ?_
        refine jr_cs3 (mc' := 0) (ms' := 0) rfl jm_MD_isIn_n jm_MD_isIn_f rfl rfl rfl rfl rfl (Nat.zero_le _) (Nat.zero_le _) ?_
        show jx_W (jm_MD_isIn, _, _, _, _, _, _) _ 0 0 0 [some _, some _, some _] [] _
        refine jr_iload rfl rfl ?_
        refine jr_iload rfl rfl ?_
        refine jr_icmp_lt rfl (fun m2MDisIn => ?_) (fun m2MDisIn => ?_)
        · refine jr_ic rfl ?_
          refine jr_zret rfl rfl rfl (Nat.zero_le _) (Nat.zero_le _) ?_
          refine jr_zret rfl rfl rfl (Nat.zero_le _) (Nat.zero_le _) ?_
          refine jr_if_eq rfl (fun _ => ?_) (fun z => absurd (by decide) z)
          refine jr_ic rfl ?_
          refine jr_iret rfl rfl (Nat.zero_le _) (Nat.zero_le _) ?_
          first
            | exact ⟨rfl, hRel0⟩
            | (exfalso; omega)
            | (exfalso; simp (disch := omega) only [Int32.lt_iff_toInt_lt, Int32.le_iff_toInt_le, ← Int32.toInt_inj, Int32.reduceToInt, nI_toInt] at c1RephasDue c5RephasDue m2MDisIn; done)
            | (exfalso; simp (disch := omega) only [Int32.lt_iff_toInt_lt, Int32.le_iff_toInt_le, ← Int32.toInt_inj, Int32.reduceToInt, nI_toInt] at c1RephasDue c5RephasDue m2MDisIn; omega)
        · refine jr_iload rfl rfl ?_
          refine jr_iload rfl rfl ?_
          refine jr_icmp_gt rfl (fun m5MDisIn => ?_) (fun m5MDisIn => ?_)
          · refine jr_ic rfl ?_
            refine jr_zret rfl rfl rfl (Nat.zero_le _) (Nat.zero_le _) ?_
            refine jr_zret rfl rfl rfl (Nat.zero_le _) (Nat.zero_le _) ?_
            refine jr_if_eq rfl (fun _ => ?_) (fun z => absurd (by decide) z)
            refine jr_ic rfl ?_
            refine jr_iret rfl rfl (Nat.zero_le _) (Nat.zero_le _) ?_
            first
              | exact ⟨rfl, hRel0⟩
              | (exfalso; omega)
              | (exfalso; simp (disch := omega) only [Int32.lt_iff_toInt_lt, Int32.le_iff_toInt_le, ← Int32.toInt_inj, Int32.reduceToInt, nI_toInt] at c1RephasDue c5RephasDue m2MDisIn m5MDisIn; done)
              | (exfalso; simp (disch := omega) only [Int32.lt_iff_toInt_lt, Int32.le_iff_toInt_le, ← Int32.toInt_inj, Int32.reduceToInt, nI_toInt] at c1RephasDue c5RephasDue m2MDisIn m5MDisIn; omega)
          · refine jr_ic rfl ?_
            refine jr_goto rfl ?_
            refine jr_zret rfl rfl rfl (Nat.zero_le _) (Nat.zero_le _) ?_
            refine jr_zret rfl rfl rfl (Nat.zero_le _) (Nat.zero_le _) ?_
            refine jr_if_eq rfl (fun z => absurd z (by decide)) (fun _ => ?_)
            refine jr_aload rfl rfl ?_
            refine jr_iload rfl rfl ?_
            refine jr_cv1 (mc' := 0) (ms' := 0) rfl jm_MD_isForgiven_n jm_MD_isForgiven_f rfl rfl rfl rfl rfl rfl rfl (Nat.zero_le _) (Nat.zero_le _) ?_
            show jx_W (jm_MD_isForgiven, _, _, _, _, _, _) _ 0 0 0 [some _, some _] [] _
            refine jr_aload rfl rfl ?_
            refine jr_getR rfl rfl rfl rfl (Or.inl rfl) ?_
            refine jr_ic rfl ?_
            refine jr_iald (len := 337) rfl rfl (show _ = nI 36 from rfl) (by decide) ?_
            refine jr_iload rfl rfl ?_
            refine jr_ishr rfl ?_
            refine jr_ic rfl ?_
            refine jr_iand rfl ?_
            refine jr_ic rfl ?_
            refine jr_icmp_ne rfl (fun m9MDisForgiven => ?_) (fun m9MDisForgiven => ?_)
            · refine jr_ic rfl ?_
              refine jr_zret rfl rfl rfl (Nat.zero_le _) (Nat.zero_le _) ?_
              refine jr_if_ne rfl (fun z => absurd (by decide) z) (fun _ => ?_)
              refine jr_iload rfl rfl ?_
              refine jr_ic rfl ?_
              refine jr_ic rfl ?_
              refine jr_cs3 (mc' := 0) (ms' := 0) rfl jm_MD_isIn_n jm_MD_isIn_f rfl rfl rfl rfl rfl (Nat.zero_le _) (Nat.zero_le _) ?_
              show jx_W (jm_MD_isIn, _, _, _, _, _, _) _ 0 0 0 [some _, some _, some _] [] _
              refine jr_iload rfl rfl ?_
              refine jr_iload rfl rfl ?_
              refine jr_icmp_lt rfl (fun m2MDisIn_2 => ?_) (fun m2MDisIn_2 => ?_)
              · refine jr_ic rfl ?_
                refine jr_zret rfl rfl rfl (Nat.zero_le _) (Nat.zero_le _) ?_
                refine jr_if_ne rfl (fun z => absurd (by decide) z) (fun _ => ?_)
                refine jr_ic rfl ?_
                refine jr_iret rfl rfl (Nat.zero_le _) (Nat.zero_le _) ?_
                first
                  | exact ⟨rfl, hRel0⟩
                  | (exfalso; omega)
                  | (exfalso; simp (disch := omega) only [Int32.lt_iff_toInt_lt, Int32.le_iff_toInt_le, ← Int32.toInt_inj, Int32.reduceToInt, nI_toInt] at c1RephasDue c5RephasDue m2MDisIn m5MDisIn m9MDisForgiven m2MDisIn_2; done)
                  | (exfalso; simp (disch := omega) only [Int32.lt_iff_toInt_lt, Int32.le_iff_toInt_le, ← Int32.toInt_inj, Int32.reduceToInt, nI_toInt] at c1RephasDue c5RephasDue m2MDisIn m5MDisIn m9MDisForgiven m2MDisIn_2; omega)
              · refine jr_iload rfl rfl ?_
                refine jr_iload rfl rfl ?_
                refine jr_icmp_gt rfl (fun m5MDisIn_2 => ?_) (fun m5MDisIn_2 => ?_)
                · refine jr_ic rfl ?_
                  refine jr_zret rfl rfl rfl (Nat.zero_le _) (Nat.zero_le _) ?_
                  refine jr_if_ne rfl (fun z => absurd (by decide) z) (fun _ => ?_)
                  refine jr_ic rfl ?_
                  refine jr_iret rfl rfl (Nat.zero_le _) (Nat.zero_le _) ?_
                  first
                    | exact ⟨rfl, hRel0⟩
                    | (exfalso; omega)
                    | (exfalso; simp (disch := omega) only [Int32.lt_iff_toInt_lt, Int32.le_iff_toInt_le, ← Int32.toInt_inj, Int32.reduceToInt, nI_toInt] at c1RephasDue c5RephasDue m2MDisIn m5MDisIn m9MDisForgiven m2MDisIn_2 m5MDisIn_2; done)
                    | (exfalso; simp (disch := omega) only [Int32.lt_iff_toInt_lt, Int32.le_iff_toInt_le, ← Int32.toInt_inj, Int32.reduceToInt, nI_toInt] at c1RephasDue c5RephasDue m2MDisIn m5MDisIn m9MDisForgiven m2MDisIn_2 m5MDisIn_2; omega)
                · refine jr_ic rfl ?_
                  refine jr_goto rfl ?_
                  refine jr_zret rfl rfl rfl (Nat.zero_le _) (Nat.zero_le _) ?_
                  refine jr_if_ne rfl (fun _ => ?_) (fun z => absurd z (by decide))
                  first
                    | (exfalso; omega)
                    | (exfalso; simp (disch := omega) only [Int32.lt_iff_toInt_lt, Int32.le_iff_toInt_le, ← Int32.toInt_inj, Int32.reduceToInt, nI_toInt] at c1RephasDue c5RephasDue m2MDisIn m5MDisIn m9MDisForgiven m2MDisIn_2 m5MDisIn_2; done)
                    | (exfalso; simp (disch := omega) only [Int32.lt_iff_toInt_lt, Int32.le_iff_toInt_le, ← Int32.toInt_inj, Int32.reduceToInt, nI_toInt] at c1RephasDue c5RephasDue m2MDisIn m5MDisIn m9MDisForgiven m2MDisIn_2 m5MDisIn_2; omega)
            · refine jr_ic rfl ?_
              refine jr_goto rfl ?_
              refine jr_zret rfl rfl rfl (Nat.zero_le _) (Nat.zero_le _) ?_
              refine jr_if_ne rfl (fun _ => ?_) (fun z => absurd z (by decide))
              refine jr_ic rfl ?_
              refine jr_iret rfl rfl (Nat.zero_le _) (Nat.zero_le _) ?_
              first
                | exact ⟨rfl, hRel0⟩
                | (exfalso; omega)
                | (exfalso; simp (disch := omega) only [Int32.lt_iff_toInt_lt, Int32.le_iff_toInt_le, ← Int32.toInt_inj, Int32.reduceToInt, nI_toInt] at c1RephasDue c5RephasDue m2MDisIn m5MDisIn m9MDisForgiven; done)
                | (exfalso; simp (disch := omega) only [Int32.lt_iff_toInt_lt, Int32.le_iff_toInt_le, ← Int32.toInt_inj, Int32.reduceToInt, nI_toInt] at c1RephasDue c5RephasDue m2MDisIn m5MDisIn m9MDisForgiven; omega)
      · refine jr_ic rfl ?_
        refine jr_goto rfl ?_
        refine jr_zret rfl rfl rfl (Nat.zero_le _) (Nat.zero_le _) ?_
        refine jr_if_eq rfl (fun z => absurd z (by decide)) (fun _ => ?_)
        refine jr_aload rfl rfl ?_
        refine jr_getR rfl rfl rfl rfl (Or.inl rfl) ?_
        refine jr_getR rfl rfl rfl rfl (Or.inl rfl) ?_
        refine jr_iload rfl rfl ?_
        first
          | (exfalso; omega)
          | (exfalso; simp (disch := omega) only [Int32.lt_iff_toInt_lt, Int32.le_iff_toInt_le, ← Int32.toInt_inj, Int32.reduceToInt, nI_toInt] at c1RephasDue c5RephasDue; done)
          | (exfalso; simp (disch := omega) only [Int32.lt_iff_toInt_lt, Int32.le_iff_toInt_le, ← Int32.toInt_inj, Int32.reduceToInt, nI_toInt] at c1RephasDue c5RephasDue; omega)

