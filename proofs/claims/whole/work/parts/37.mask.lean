theorem jw_okb_n {B : Nat} {cd : Nat → Int32} {n k : Nat} (h : jw_okb B cd n k 0) : 1 ≤ n := by
  cases n with
  | zero => have : (0 : Nat) = 1 := h; omega
  | succ n => omega
set_option maxHeartbeats 800000 in
set_option maxRecDepth 100000 in
theorem ev_Rep_hasLaw {d : Nat} {h : jx_H} {Q : Option jx_V → jx_H → Prop} {hm : jx_H} {r b : Nat} (hcode : jy_code h r hm b 5) (hQ : Q (some (jv_i (if jC hm b 18 5 = 0 then 0 else 1))) h) : jx_Ev jm_Rep_hasLaw (d + 1) 0 0 false 0 [jv_r 7 r] h Q := by
  show jx_W (jm_Rep_hasLaw, d + 1, 0, 0, false, 0, _) Q 0 0 0 [some (jv_r 7 r)] [] _
  obtain ⟨s, hs1, hs2, hs3, hs4⟩ := hcode
  refine jr_aload rfl rfl ?_
  refine jr_ic rfl ?_
  refine jr_cv1 (mc' := 0) (ms' := 0) rfl jm_Rep_endOf_n jm_Rep_endOf_f rfl rfl rfl rfl rfl rfl rfl (Nat.zero_le _) (Nat.zero_le _) ?_
  refine ev_Rep_endOf (w := 5) (by decide) ?_
  rw [hs2]
  refine jr_aload rfl rfl ?_
  refine jr_ic rfl ?_
  refine jr_cv1 (mc' := 0) (ms' := 0) rfl jm_Rep_startOf_n jm_Rep_startOf_f rfl rfl rfl rfl rfl rfl rfl (Nat.zero_le _) (Nat.zero_le _) ?_
  refine ev_Rep_startOf (w := 5) (by decide) ?_
  rw [hs1]
  refine jr_icmp_le rfl (fun c6 => ?_) (fun c6 => ?_)
  · refine jr_ic rfl ?_
    refine jr_zret rfl rfl rfl (Nat.zero_le _) (Nat.zero_le _) ?_
    rw [if_pos ?_] at hQ
    · exact hQ
    · refine Decidable.byContradiction (fun hz => ?_)
      have h1 := jw_okb_n (hs4 hz).2.1
      have e : jy_rn hm b 5 = jw_rn hm b 5 := if_neg hz
      rw [e] at hs3 c6
      exact nI_ge (by omega) (by omega) c6
  · refine jr_ic rfl ?_
    refine jr_goto rfl ?_
    refine jr_zret rfl rfl rfl (Nat.zero_le _) (Nat.zero_le _) ?_
    rw [if_neg ?_] at hQ
    · exact hQ
    · intro hz
      have e : jy_rn hm b 5 = 0 := if_pos hz
      rw [e] at c6
      exact c6 (nI_le (Nat.le_refl _) (by omega))

set_option maxHeartbeats 800000 in
set_option maxRecDepth 100000 in
theorem ev_Rep_leastOf {d : Nat} {h : jx_H} {Q : Option jx_V → jx_H → Prop} {hm : jx_H} {r b m : Nat} (hR : jy_R h r hm b) (hnm : jh_I hm 66 0 b = nI (jz_nm hm b) ∧ jz_nm hm b ≤ 6) (hmm : m < jz_nm hm b) (hQ : Q (some (jv_i (jC hm b 3 m))) h) : jx_Ev jm_Rep_leastOf (d + 1) 0 0 false 0 [jv_r 7 r, jv_i (nI m)] h Q := by
  show jx_W (jm_Rep_leastOf, d + 1, 0, 0, false, 0, _) Q 0 0 0 [some (jv_r 7 r), some (jv_i (nI m))] [] _
  refine jr_aload rfl rfl ?_
  refine jr_iload rfl rfl ?_
  refine jr_cv1 (mc' := 0) (ms' := 0) rfl jm_Rep_hasMonth_n jm_Rep_hasMonth_f rfl rfl rfl rfl rfl rfl rfl (Nat.zero_le _) (Nat.zero_le _) ?_
  show jx_W (jm_Rep_hasMonth, _, _, _, _, _, _) _ 0 0 0 [some _, some _] [] _
  refine jr_iload rfl rfl ?_
  refine jr_if_lt rfl (fun z => absurd z (nI_pos (by omega))) (fun _ => ?_)
  refine jr_iload rfl rfl ?_
  refine jr_aload rfl rfl ?_
  refine jr_getI rfl rfl ?_
  rw [show jh_I h 7 r 0 = nI (jz_nm hm b) from hR.1.trans hnm.1]
  refine jr_icmp_ge rfl (fun z => absurd z (nI_ge (a := m) (b := jz_nm hm b) hmm (by omega))) (fun _ => ?_)
  refine jr_ic rfl ?_
  refine jr_goto rfl ?_
  refine jr_zret rfl rfl rfl (Nat.zero_le _) (Nat.zero_le _) ?_
  refine jr_if_eq rfl (fun z => absurd z (by decide)) (fun _ => ?_)
  refine jr_aload rfl rfl ?_
  refine jr_getR rfl rfl rfl rfl (Or.inl rfl) ?_
  refine jr_iload rfl rfl ?_
  refine jr_iald (len := 6) rfl rfl rfl (by omega) ?_
  refine jr_goto rfl ?_
  refine jr_iret rfl rfl (Nat.zero_le _) (Nat.zero_le _) ?_
  rw [(hR.2.2.2.1 m hmm).1]
  exact hQ

set_option maxHeartbeats 800000 in
set_option maxRecDepth 100000 in
theorem ev_Rep_mostOf {d : Nat} {h : jx_H} {Q : Option jx_V → jx_H → Prop} {hm : jx_H} {r b m : Nat} (hR : jy_R h r hm b) (hnm : jh_I hm 66 0 b = nI (jz_nm hm b) ∧ jz_nm hm b ≤ 6) (hmm : m < jz_nm hm b) (hQ : Q (some (jv_i (jC hm b 4 m))) h) : jx_Ev jm_Rep_mostOf (d + 1) 0 0 false 0 [jv_r 7 r, jv_i (nI m)] h Q := by
  show jx_W (jm_Rep_mostOf, d + 1, 0, 0, false, 0, _) Q 0 0 0 [some (jv_r 7 r), some (jv_i (nI m))] [] _
  refine jr_aload rfl rfl ?_
  refine jr_iload rfl rfl ?_
  refine jr_cv1 (mc' := 0) (ms' := 0) rfl jm_Rep_hasMonth_n jm_Rep_hasMonth_f rfl rfl rfl rfl rfl rfl rfl (Nat.zero_le _) (Nat.zero_le _) ?_
  show jx_W (jm_Rep_hasMonth, _, _, _, _, _, _) _ 0 0 0 [some _, some _] [] _
  refine jr_iload rfl rfl ?_
  refine jr_if_lt rfl (fun z => absurd z (nI_pos (by omega))) (fun _ => ?_)
  refine jr_iload rfl rfl ?_
  refine jr_aload rfl rfl ?_
  refine jr_getI rfl rfl ?_
  rw [show jh_I h 7 r 0 = nI (jz_nm hm b) from hR.1.trans hnm.1]
  refine jr_icmp_ge rfl (fun z => absurd z (nI_ge (a := m) (b := jz_nm hm b) hmm (by omega))) (fun _ => ?_)
  refine jr_ic rfl ?_
  refine jr_goto rfl ?_
  refine jr_zret rfl rfl rfl (Nat.zero_le _) (Nat.zero_le _) ?_
  refine jr_if_eq rfl (fun z => absurd z (by decide)) (fun _ => ?_)
  refine jr_aload rfl rfl ?_
  refine jr_getR rfl rfl rfl rfl (Or.inl rfl) ?_
  refine jr_iload rfl rfl ?_
  refine jr_iald (len := 6) rfl rfl rfl (by omega) ?_
  refine jr_goto rfl ?_
  refine jr_iret rfl rfl (Nat.zero_le _) (Nat.zero_le _) ?_
  rw [(hR.2.2.2.1 m hmm).2]
  exact hQ

set_option maxHeartbeats 800000 in
set_option maxRecDepth 100000 in
theorem ev_Cal_nextMonth {d : Nat} {h : jx_H} {Q : Option jx_V → jx_H → Prop} {hm : jx_H} {b c r : Nat} (hw : jz_W hm b) (hA : jy_A h c r (jA hm)) (hR : jy_R h r hm b) (hmo : ¬ jC hm b 0 0 = 0) (hQ : Q (some (jv_i (jw_month (jC hm b) (jA hm)))) h) : jx_Ev jm_Cal_nextMonth (d) 0 0 false 0 [jv_r 1 c] h Q := by
  show jx_W (jm_Cal_nextMonth, d, 0, 0, false, 0, _) Q 0 0 0 [some (jv_r 1 c)] [] _
  have hnm := hw.2.2.1.1
  have hn0 : 0 < jz_nm hm b := by
    rcases Nat.eq_zero_or_pos (jz_nm hm b) with e | e
    · rw [e] at hnm; exact absurd hnm.1 hmo
    · exact e
  have hr0 : jh_I h 7 r 0 = jC hm b 0 0 := hR.1
  refine jr_aload rfl rfl ?_
  refine jr_getM rfl rfl rfl rfl hA.1 ?_
  refine jr_getI rfl rfl ?_
  rw [hr0, show jC hm b 0 0 = nI (jz_nm hm b) from hnm.1]
  refine jr_if_le rfl (fun z => absurd z (nI_nle hn0 (by omega))) (fun _ => ?_)
  refine jr_aload rfl rfl ?_
  refine jr_getI rfl rfl ?_
  refine jr_aload rfl rfl ?_
  refine jr_getM rfl rfl rfl rfl hA.1 ?_
  refine jr_getI rfl rfl ?_
  rw [hr0]
  refine jr_irem rfl hmo ?_
  refine jr_goto rfl ?_
  refine jr_iret rfl rfl (Nat.zero_le _) (Nat.zero_le _) ?_
  rw [show jh_I h 1 c 2 = jA hm 0 from hA.2.1]
  exact hQ

set_option maxHeartbeats 800000 in
set_option maxRecDepth 100000 in
theorem ev_Cal_nextYear {d : Nat} {h : jx_H} {Q : Option jx_V → jx_H → Prop} {hm : jx_H} {b c r : Nat} (hw : jz_W hm b) (hA : jy_A h c r (jA hm)) (hR : jy_R h r hm b) (hmo : ¬ jC hm b 0 0 = 0) (hQ : Q (some (jv_i (jA hm 0 / jC hm b 0 0))) h) : jx_Ev jm_Cal_nextYear (d) 0 0 false 0 [jv_r 1 c] h Q := by
  show jx_W (jm_Cal_nextYear, d, 0, 0, false, 0, _) Q 0 0 0 [some (jv_r 1 c)] [] _
  have hnm := hw.2.2.1.1
  have hn0 : 0 < jz_nm hm b := by
    rcases Nat.eq_zero_or_pos (jz_nm hm b) with e | e
    · rw [e] at hnm; exact absurd hnm.1 hmo
    · exact e
  have hr0 : jh_I h 7 r 0 = jC hm b 0 0 := hR.1
  refine jr_aload rfl rfl ?_
  refine jr_getM rfl rfl rfl rfl hA.1 ?_
  refine jr_getI rfl rfl ?_
  rw [hr0, show jC hm b 0 0 = nI (jz_nm hm b) from hnm.1]
  refine jr_if_le rfl (fun z => absurd z (nI_nle hn0 (by omega))) (fun _ => ?_)
  refine jr_aload rfl rfl ?_
  refine jr_getI rfl rfl ?_
  refine jr_aload rfl rfl ?_
  refine jr_getM rfl rfl rfl rfl hA.1 ?_
  refine jr_getI rfl rfl ?_
  rw [hr0]
  refine jr_idiv rfl hmo ?_
  refine jr_goto rfl ?_
  refine jr_iret rfl rfl (Nat.zero_le _) (Nat.zero_le _) ?_
  rw [show jh_I h 1 c 2 = jA hm 0 from hA.2.1]
  exact hQ

theorem jw_some_z {M : Nat → Int32} : ∀ {n : Nat}, (∀ j, j < n → M j = 0) → jw_some M n = 0
  | 0, _ => rfl
  | n + 1, h => by rw [jw_some_s, if_pos (jw_some_z (fun j hj => h j (by omega))), if_pos (h n (by omega))]
theorem jw_some_z' {M : Nat → Int32} : ∀ {n : Nat}, jw_some M n = 0 → ∀ j, j < n → M j = 0
  | 0, _, j, hj => absurd hj (by omega)
  | n + 1, h, j, hj => by
    rw [jw_some_s] at h
    by_cases e : jw_some M n = 0
    · rw [if_pos e] at h
      by_cases e2 : M n = 0
      · rcases Nat.lt_succ_iff_lt_or_eq.mp hj with e3 | e3
        · exact jw_some_z' e j e3
        · rw [e3]; exact e2
      · rw [if_neg e2] at h; exact absurd h (by decide)
    · rw [if_neg e] at h; exact absurd h (by decide)
theorem jw_m0_out {f t has : Int32} {P : Nat → Int32} {l : Nat} (h : ¬ (f ≤ nI l ∧ nI l ≤ t)) : jw_m0 f t has P l = 0 := if_neg h
set_option maxHeartbeats 800000 in
set_option maxRecDepth 100000 in
theorem lp_maskByLaw {d n0 : Nat} {Q : Option jx_V → jx_H → Prop} {h hm : jx_H} {b c r f t : Nat} {S0 : Nat → Nat → Int32} {y z : Int32} (S : Nat → Nat → Int32) (l : Nat) (hw : jz_W hm b) (hA : jy_A h c r (jA hm)) (hR : jy_R h r hm b) (hmo : ¬ jC hm b 0 0 = 0) (hP : jy_Pf S0 (jh_I h 7 r 13) hm b) (hft : f ≤ t) (ht : t ≤ 31) (hl1 : f ≤ l) (hl2 : l ≤ t + 1) (hmb : jw_mayb hm b = jw_may (nI f) (nI t) (jC hm b 18 5) (jw_law hm b)) (hfr : ∀ x, x ≠ 37 → S x = S0 x)
  (h1 : ∀ j, j < 32 → bt y j = decide (f ≤ j ∧ j < l)) (h2 : ∀ j, j < 32 → bt z j = decide (f ≤ j ∧ j < l ∧ ¬ (jw_m0 (nI f) (nI t) (jC hm b 18 5) (jw_law hm b)) j = 0)) (k : ∀ (S' : Nat → Nat → Int32) (v : Int32), (∀ x, x ≠ 37 → S' x = S0 x) → (∀ l, l < 32 → jy_u v l = jw_mayb hm b l) → Q (some (jv_i v)) (jP h S' (c + 1)))  : jx_W (jm_Poll_maskByLaw, d + 3, 0, 0, false, 0, n0) Q 0 0 21 [some (jv_r 5 0), some (jv_r 7 r), some (jv_i y), some (jv_i z), some (jv_i (if (if jC hm b 18 5 = 0 then (0 : Int32) else 1) = 0 then (1 : Int32) else 0)), some (jv_i (nI t)), some (jv_i (nI l))] [] (jP h S (c + 1)) := by
  have hfree : ¬ (if (if jC hm b 18 5 = 0 then (0 : Int32) else 1) = 0 then (1 : Int32) else 0) = 0 → jC hm b 18 5 = 0 := fun q => Decidable.byContradiction (fun g => q (by rw [if_neg g]; decide))
  have hP' : jy_Pf S (jh_I h 7 r 13) hm b := by
    unfold jy_Pf at hP ⊢
    rw [hfr 5 (by decide), hfr 40 (by decide), hfr 41 (by decide)]
    exact hP
  refine jr_iload rfl rfl ?_
  refine jr_iload rfl rfl ?_
  refine jr_icmp_gt rfl (fun c23 => ?_) (fun c23 => ?_)
  · refine jr_iload rfl rfl ?_
    refine jr_if_eq rfl (fun c47 => ?_) (fun c47 => ?_)
    · refine jr_iload rfl rfl ?_
      refine jr_iret rfl rfl (Nat.zero_le _) (Nat.zero_le _) ?_
      have hlt : t < l := jn_lt (show nI t < nI l from c23) (by omega) (by omega)
      have hl3 : l = t + 1 := by omega
      subst hl3
      refine k S _ hfr (fun j hj => ?_)
      have hs : jw_some (jw_m0 (nI f) (nI t) (jC hm b 18 5) (jw_law hm b)) 32 = 0 := jw_some_z (fun i hi => by
        have e : bt z i = false := by rw [c47, b_0]
        rw [h2 i hi, decide_eq_false_iff_not] at e
        refine Decidable.byContradiction (fun q => e ?_)
        have hin : nI f ≤ nI i ∧ nI i ≤ nI t := Decidable.byContradiction (fun g => q (jw_m0_out g))
        have g1 := jn_le hin.1 (by omega) (by omega)
        have g2 := jn_le hin.2 (by omega) (by omega)
        exact ⟨g1, by omega, q⟩)
      rw [jy_u_bt hj, h1 j hj, hmb]
      by_cases hin : nI f ≤ nI j ∧ nI j ≤ nI t
      · have g1 := jn_le hin.1 (by omega) (by omega)
        have g2 := jn_le hin.2 (by omega) (by omega)
        rw [jw_may_in hin, if_pos hs, if_pos (decide_eq_true (by omega))]
      · rw [jw_may_out hin, jw_m0_out hin, if_neg]
        rw [decide_eq_true_iff]
        exact fun g => hin ⟨nI_le g.1 (by omega), nI_le (by omega) (by omega)⟩
    · refine jr_iload rfl rfl ?_
      refine jr_goto rfl ?_
      refine jr_iret rfl rfl (Nat.zero_le _) (Nat.zero_le _) ?_
      have hlt : t < l := jn_lt (show nI t < nI l from c23) (by omega) (by omega)
      have hl3 : l = t + 1 := by omega
      subst hl3
      refine k S _ hfr (fun j hj => ?_)
      have hs : ¬ jw_some (jw_m0 (nI f) (nI t) (jC hm b 18 5) (jw_law hm b)) 32 = 0 := fun q => c47 (b_eq0 (fun i hi => by rw [h2 i hi]; exact decide_eq_false (fun g => g.2.2 (jw_some_z' q i hi))))
      rw [jy_u_bt hj, h2 j hj, hmb]
      by_cases hin : nI f ≤ nI j ∧ nI j ≤ nI t
      · rw [jw_may_in hin, if_neg hs]
        have g1 := jn_le hin.1 (by omega) (by omega)
        have g2 := jn_le hin.2 (by omega) (by omega)
        by_cases e : (jw_m0 (nI f) (nI t) (jC hm b 18 5) (jw_law hm b)) j = 0
        · rw [e, if_neg]
          rw [decide_eq_true_iff]; exact fun g => g.2.2 rfl
        · rw [jw_m0_01 e, if_pos]
          rw [decide_eq_true_iff]; exact ⟨g1, by omega, by decide⟩
      · rw [jw_may_out hin, jw_m0_out hin, if_neg]
        rw [decide_eq_true_iff]; exact fun g => g.2.2 rfl
  · have hlt : l ≤ t := jn_nlt (show ¬ nI t < nI l from c23) (by omega) (by omega)
    have hin : nI f ≤ nI l ∧ nI l ≤ nI t := ⟨nI_le hl1 (by omega), nI_le hlt (by omega)⟩
    refine jr_iload rfl rfl ?_
    refine jr_ic rfl ?_
    refine jr_iload rfl rfl ?_
    refine jr_ishl rfl ?_
    refine jr_ior rfl ?_
    refine jr_ist2 rfl rfl ?_
    refine jr_iload rfl rfl ?_
    refine jr_if_ne rfl (fun c31 => ?_) (fun c31 => ?_)
    · refine jr_iload rfl rfl ?_
      refine jr_ic rfl ?_
      refine jr_iload rfl rfl ?_
      refine jr_ishl rfl ?_
      refine jr_ior rfl ?_
      refine jr_ist3 rfl rfl ?_
      refine jr_iinc6 rfl rfl ?_
      refine jr_goto rfl ?_
      have hm0 : ¬ (jw_m0 (nI f) (nI t) (jC hm b 18 5) (jw_law hm b)) l = 0 := by
        unfold jw_m0; rw [if_pos hin, if_pos (hfree c31)]; decide
      rw [jn_S]
      refine lp_maskByLaw S (l + 1) hw hA hR hmo hP hft ht (by omega) (by omega) hmb hfr (fun j hj => ?_) (fun j hj => ?_) k
      · rw [b_or1 (by omega) hj, h1 j hj]
        by_cases e : j = l
        · subst e; rw [decide_eq_true rfl, Bool.or_true, decide_eq_true (by omega)]
        · rw [decide_eq_false e, Bool.or_false]; exact decide_eq_decide.mpr (by omega)
      · rw [b_or1 (by omega) hj, h2 j hj]
        by_cases e : j = l
        · subst e; rw [decide_eq_true rfl, Bool.or_true, decide_eq_true ⟨by omega, by omega, hm0⟩]
        · rw [decide_eq_false e, Bool.or_false]; exact decide_eq_decide.mpr ⟨fun q => ⟨q.1, by omega, q.2.2⟩, fun q => ⟨q.1, by omega, q.2.2⟩⟩
    · refine jr_aload rfl rfl ?_
      refine jr_ic rfl ?_
      refine jr_ic rfl ?_
      refine jr_iload rfl rfl ?_
      refine jr_cv3 (mc' := 0) (ms' := 0) rfl jm_Poll_valueOf_n jm_Poll_valueOf_f rfl rfl rfl rfl rfl rfl rfl (Nat.zero_le _) (Nat.zero_le _) ?_
      refine eP_law hw hmo hA hR hP' (by omega) (fun S1 hf1 => ?_)
      refine jr_if_eq rfl (fun c37 => ?_) (fun c37 => ?_)
      · refine jr_iinc6 rfl rfl ?_
        refine jr_goto rfl ?_
        have hz : ¬ jC hm b 18 5 = 0 := fun z => absurd c31 (by rw [if_pos z]; decide)
        rw [if_neg hz] at c37
        have hm0 : (jw_m0 (nI f) (nI t) (jC hm b 18 5) (jw_law hm b)) l = 0 := by
          unfold jw_m0; rw [if_pos hin, if_neg hz, if_pos c37]
        rw [jn_S]
        refine lp_maskByLaw S1 (l + 1) hw hA hR hmo hP hft ht (by omega) (by omega) hmb (fun x hx => (hf1 x hx).trans (hfr x hx)) (fun j hj => ?_) (fun j hj => ?_) k
        · rw [b_or1 (by omega) hj, h1 j hj]
          by_cases e : j = l
          · subst e; rw [decide_eq_true rfl, Bool.or_true, decide_eq_true (by omega)]
          · rw [decide_eq_false e, Bool.or_false]; exact decide_eq_decide.mpr (by omega)
        · rw [h2 j hj]
          exact decide_eq_decide.mpr ⟨fun q => ⟨q.1, by omega, q.2.2⟩, fun q => ⟨q.1, by
            rcases Nat.lt_succ_iff_lt_or_eq.mp q.2.1 with e | e
            · exact e
            · rw [e] at q; exact absurd hm0 q.2.2, q.2.2⟩⟩
      · refine jr_iload rfl rfl ?_
        refine jr_ic rfl ?_
        refine jr_iload rfl rfl ?_
        refine jr_ishl rfl ?_
        refine jr_ior rfl ?_
        refine jr_ist3 rfl rfl ?_
        refine jr_iinc6 rfl rfl ?_
        refine jr_goto rfl ?_
        have hz : ¬ jC hm b 18 5 = 0 := fun z => absurd c31 (by rw [if_pos z]; decide)
        rw [if_neg hz] at c37
        have hm0 : ¬ (jw_m0 (nI f) (nI t) (jC hm b 18 5) (jw_law hm b)) l = 0 := by
          unfold jw_m0; rw [if_pos hin, if_neg hz, if_neg c37]; decide
        rw [jn_S]
        refine lp_maskByLaw S1 (l + 1) hw hA hR hmo hP hft ht (by omega) (by omega) hmb (fun x hx => (hf1 x hx).trans (hfr x hx)) (fun j hj => ?_) (fun j hj => ?_) k
        · rw [b_or1 (by omega) hj, h1 j hj]
          by_cases e : j = l
          · subst e; rw [decide_eq_true rfl, Bool.or_true, decide_eq_true (by omega)]
          · rw [decide_eq_false e, Bool.or_false]; exact decide_eq_decide.mpr (by omega)
        · rw [b_or1 (by omega) hj, h2 j hj]
          by_cases e : j = l
          · subst e; rw [decide_eq_true rfl, Bool.or_true, decide_eq_true ⟨by omega, by omega, hm0⟩]
          · rw [decide_eq_false e, Bool.or_false]; exact decide_eq_decide.mpr ⟨fun q => ⟨q.1, by omega, q.2.2⟩, fun q => ⟨q.1, by omega, q.2.2⟩⟩
termination_by 33 - l
decreasing_by all_goals omega

set_option maxHeartbeats 800000 in
set_option maxRecDepth 100000 in
theorem ev_Poll_maskByLaw {d : Nat} {h : jx_H} {Q : Option jx_V → jx_H → Prop} {hm : jx_H} {b c r : Nat} {S0 : Nat → Nat → Int32} (hw : jz_W hm b) (hA : jy_A h c r (jA hm)) (hR : jy_R h r hm b) (hmo : ¬ jC hm b 0 0 = 0) (hP : jy_Pf S0 (jh_I h 7 r 13) hm b) (k : ∀ (S' : Nat → Nat → Int32) (v : Int32), (∀ x, x ≠ 37 → S' x = S0 x) → (∀ l, l < 32 → jy_u v l = jw_mayb hm b l) → Q (some (jv_i v)) (jP h S' (c + 1)))  : jx_Ev jm_Poll_maskByLaw (d + 3) 0 0 false 0 [jv_r 5 0, jv_r 7 r] (jP h S0 (c + 1)) Q := by
  show jx_W (jm_Poll_maskByLaw, d + 3, 0, 0, false, 0, _) Q 0 0 0 [some (jv_r 5 0), some (jv_r 7 r), none, none, none, none, none] [] _
  obtain ⟨m, hm1, hm2⟩ := jz_mo hw hmo
  have hm6 : m < 6 := by have := hw.2.2.1.1.2; omega
  obtain ⟨f, t, hf, ht, hft, ht31⟩ := jz_ft hw hm2
  have hmb := jw_mayb_eq hm1 hm6 hf ht
  have hmm : jh_I (jP h S0 (c + 1)) 5 0 7 = nI m := hP.1.trans hm1
  refine jr_ic rfl ?_
  refine jr_ist2 rfl rfl ?_
  refine jr_ic rfl ?_
  refine jr_ist3 rfl rfl ?_
  refine jr_aload rfl rfl ?_
  refine jr_cv0 (mc' := 0) (ms' := 0) rfl jm_Rep_hasLaw_n jm_Rep_hasLaw_f rfl rfl rfl rfl rfl rfl rfl (Nat.zero_le _) (Nat.zero_le _) ?_
  refine ev_Rep_hasLaw (hm := hm) (b := b) (hR.2.2.2.2.2.2.2.2.2.2.2.2 5 (by decide)) ?_
  refine jr_if_ne rfl (fun c6 => ?_) (fun c6 => ?_)
  · refine jr_ic rfl ?_
    refine jr_ist4 rfl rfl ?_
    refine jr_aload rfl rfl ?_
    refine jr_aload rfl rfl ?_
    refine jr_getI rfl rfl ?_
    rw [hmm]
    refine jr_cv1 (mc' := 0) (ms' := 0) rfl jm_Rep_mostOf_n jm_Rep_mostOf_f rfl rfl rfl rfl rfl rfl rfl (Nat.zero_le _) (Nat.zero_le _) ?_
    refine ev_Rep_mostOf (hm := hm) (b := b) hR hw.2.2.1.1 hm2 ?_
    rw [ht]
    refine jr_ist5 rfl rfl ?_
    refine jr_aload rfl rfl ?_
    refine jr_aload rfl rfl ?_
    refine jr_getI rfl rfl ?_
    rw [hmm]
    refine jr_cv1 (mc' := 0) (ms' := 0) rfl jm_Rep_leastOf_n jm_Rep_leastOf_f rfl rfl rfl rfl rfl rfl rfl (Nat.zero_le _) (Nat.zero_le _) ?_
    refine ev_Rep_leastOf (hm := hm) (b := b) hR hw.2.2.1.1 hm2 ?_
    rw [hf]
    refine jr_ist6 rfl rfl ?_
    have := lp_maskByLaw (d := d) (n0 := jh_n (jP h S0 (c + 1))) (Q := Q) (y := 0) (z := 0) S0 f hw hA hR hmo hP hft ht31 (Nat.le_refl _) (by omega) hmb (fun _ _ => rfl) (fun j hj => by rw [b_0, decide_eq_false (by omega)]) (fun j hj => by rw [b_0, decide_eq_false (by omega)]) k
    rw [if_neg c6] at this
    exact this
  · refine jr_ic rfl ?_
    refine jr_goto rfl ?_
    refine jr_ist4 rfl rfl ?_
    refine jr_aload rfl rfl ?_
    refine jr_aload rfl rfl ?_
    refine jr_getI rfl rfl ?_
    rw [hmm]
    refine jr_cv1 (mc' := 0) (ms' := 0) rfl jm_Rep_mostOf_n jm_Rep_mostOf_f rfl rfl rfl rfl rfl rfl rfl (Nat.zero_le _) (Nat.zero_le _) ?_
    refine ev_Rep_mostOf (hm := hm) (b := b) hR hw.2.2.1.1 hm2 ?_
    rw [ht]
    refine jr_ist5 rfl rfl ?_
    refine jr_aload rfl rfl ?_
    refine jr_aload rfl rfl ?_
    refine jr_getI rfl rfl ?_
    rw [hmm]
    refine jr_cv1 (mc' := 0) (ms' := 0) rfl jm_Rep_leastOf_n jm_Rep_leastOf_f rfl rfl rfl rfl rfl rfl rfl (Nat.zero_le _) (Nat.zero_le _) ?_
    refine ev_Rep_leastOf (hm := hm) (b := b) hR hw.2.2.1.1 hm2 ?_
    rw [hf]
    refine jr_ist6 rfl rfl ?_
    have := lp_maskByLaw (d := d) (n0 := jh_n (jP h S0 (c + 1))) (Q := Q) (y := 0) (z := 0) S0 f hw hA hR hmo hP hft ht31 (Nat.le_refl _) (by omega) hmb (fun _ _ => rfl) (fun j hj => by rw [b_0, decide_eq_false (by omega)]) (fun j hj => by rw [b_0, decide_eq_false (by omega)]) k
    rw [if_pos c6] at this
    exact this

