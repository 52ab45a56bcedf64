theorem ev2_driftUpper {d : Nat} {h hm : jx_H} {Q : Option jx_V → jx_H → Prop} {b c r : Nat} {x y : Int32} (hw : jz_W hm b) (hA : jy_A h c r (jA hm)) (hR : jy_R h r hm b) (hmo : ¬ jC hm b 0 0 = 0) (hQ : Q (some (jv_i (jw_dU (jC hm b) (jA hm 1 + x) (jA hm 0 + y)))) h) : jx_Ev jm_Cal_driftUpper (d + 2) 0 0 false 0 [jv_r 1 c, jv_i x, jv_i y] h Q := by
  refine ev_Cal_driftUpper hA.1 ?_
  rw [jy_dU hw hmo hA hR]
  exact hQ
theorem ev2_driftLower {d : Nat} {h hm : jx_H} {Q : Option jx_V → jx_H → Prop} {b c r : Nat} (hw : jz_W hm b) (hA : jy_A h c r (jA hm)) (hR : jy_R h r hm b) (hmo : ¬ jC hm b 0 0 = 0) (hQ : Q (some (jv_i (jw_dL (jC hm b)))) h) : jx_Ev jm_Cal_driftLower (d + 1) 0 0 false 0 [jv_r 1 c] h Q := by
  refine ev_Cal_driftLower hA.1 ?_
  rw [jy_dL hw hmo hR]
  exact hQ
set_option maxHeartbeats 800000 in
set_option maxRecDepth 100000 in
theorem ev_Poll_open {d : Nat} {h : jx_H} {Q : Option jx_V → jx_H → Prop} {hm : jx_H} {b c r kc : Nat} {S : Nat → Nat → Int32} (hw : jz_W hm b) (hA : jy_A h c r (jA hm)) (hR : jy_R h r hm b) (hmo : ¬ jC hm b 0 0 = 0) (k : ∀ S' : Nat → Nat → Int32, jy_Pf S' (jh_I h 7 r 13) hm b → jy_Pm S' hm b → Q none (jP h S' (c + 1)))  : jx_Ev jm_Poll_open (d + 4) 0 0 false 0 [jv_r 5 0, jv_r 1 c] (jP h S kc) Q := by
  show jx_W (jm_Poll_open, d + 4, 0, 0, false, 0, _) Q 0 0 0 [some (jv_r 5 0), some (jv_r 1 c)] [] _
  obtain ⟨L, hL, hL1, hL2⟩ := jz_dl hw hmo
  refine jr_aload rfl rfl ?_
  refine jr_aload rfl rfl ?_
  refine jr_putM rfl rfl rfl rfl ?_
  rw [jP_M]
  refine jr_aload rfl rfl ?_
  refine jr_aload rfl rfl ?_
  refine jr_cv0 (mc' := 0) (ms' := 0) rfl jm_Cal_nextMonth_n jm_Cal_nextMonth_f rfl rfl rfl rfl rfl rfl rfl (Nat.zero_le _) (Nat.zero_le _) ?_
  refine ev_Cal_nextMonth hw hA hR hmo ?_
  refine jr_putI rfl rfl ?_
  simp only [jP_5, jP_r5]
  refine jr_aload rfl rfl ?_
  refine jr_aload rfl rfl ?_
  refine jr_cv0 (mc' := 0) (ms' := 0) rfl jm_Cal_nextYear_n jm_Cal_nextYear_f rfl rfl rfl rfl rfl rfl rfl (Nat.zero_le _) (Nat.zero_le _) ?_
  refine ev_Cal_nextYear hw hA hR hmo ?_
  refine jr_putI rfl rfl ?_
  simp only [jP_5, jP_r5]
  refine jr_aload rfl rfl ?_
  refine jr_aload rfl rfl ?_
  refine jr_ic rfl ?_
  refine jr_ic rfl ?_
  refine jr_cv2 (mc' := 0) (ms' := 0) rfl jm_Cal_driftUpper_n jm_Cal_driftUpper_f rfl rfl rfl rfl rfl rfl rfl (Nat.zero_le _) (Nat.zero_le _) ?_
  refine ev2_driftUpper hw hA hR hmo ?_
  refine jr_aload rfl rfl ?_
  refine jr_cv0 (mc' := 0) (ms' := 0) rfl jm_Cal_driftLower_n jm_Cal_driftLower_f rfl rfl rfl rfl rfl rfl rfl (Nat.zero_le _) (Nat.zero_le _) ?_
  refine ev2_driftLower hw hA hR hmo ?_
  rw [hL]
  refine jr_cs2 (mc' := 0) (ms' := 0) rfl jm_Math_floorDiv_n jm_Math_floorDiv_f rfl rfl rfl rfl rfl (Nat.zero_le _) (Nat.zero_le _) ?_
  refine ev_Math_floorDiv hL1 (by omega) (fun v hv => ?_)
  refine jr_putI rfl rfl ?_
  simp only [jP_5, jP_r5]
  refine jr_aload rfl rfl ?_
  refine jr_getM rfl rfl rfl rfl hA.1 ?_
  refine jr_getZ rfl rfl ?_
  refine jr_if_eq rfl (fun c23 => ?_) (fun c23 => ?_)
  · refine jr_aload rfl rfl ?_
    refine jr_aload rfl rfl ?_
    refine jr_aload rfl rfl ?_
    refine jr_getM rfl rfl rfl rfl hA.1 ?_
    refine jr_cv1 (mc' := 0) (ms' := 0) rfl jm_Poll_maskByLaw_n jm_Poll_maskByLaw_f rfl rfl rfl rfl rfl rfl rfl (Nat.zero_le _) (Nat.zero_le _) ?_
    refine ev_Poll_maskByLaw (c := c) hw hA hR hmo (show jy_Pf _ (jh_I h 7 r 13) hm b from ⟨rfl, rfl, fun l hl => jz_drift hw hmo hL hL1 hL2 hv hl, fun z => absurd c23 z⟩) (fun S3 v3 f3 hm3 => ?_)
    refine jr_putI rfl rfl ?_
    refine jr_vret rfl rfl (Nat.zero_le _) (Nat.zero_le _) ?_
    simp only [jP_5, jP_r5]
    have hPf := (show jy_Pf (fun x => if x = 5 then upd (upd (upd (S 5) 7 (jw_month (jC hm b) (jA hm))) 8 (jA hm 0 / jC hm b 0 0)) 9 v else S x) (jh_I h 7 r 13) hm b from ⟨rfl, rfl, fun l hl => jz_drift hw hmo hL hL1 hL2 hv hl, fun z => absurd c23 z⟩)
    refine k _ ?_ (fun l hl => hm3 l hl)
    have e5 := f3 5 (by decide)
    have e40 := f3 40 (by decide)
    have e41 := f3 41 (by decide)
    obtain ⟨q1, q2, q3, q4⟩ := hPf
    refine ⟨?_, ?_, fun l hl => ?_, fun z p l hp hl => ?_⟩
    · exact (congrFun e5 7).trans q1
    · exact (congrFun e5 8).trans q2
    · exact (congrArg (· + nI l) (congrFun e5 9)).trans (q3 l hl)
    · exact ⟨(congrFun e40 _).trans (q4 z p l hp hl).1, (congrFun e41 _).trans (q4 z p l hp hl).2⟩
  · refine jr_aload rfl rfl ?_
    refine jr_cv0 (mc' := 0) (ms' := 0) rfl jm_Poll_fillFlows_n jm_Poll_fillFlows_f rfl rfl rfl rfl rfl rfl rfl (Nat.zero_le _) (Nat.zero_le _) ?_
    refine ev_Poll_fillFlows (c := c) hw hA hR rfl (fun S2 f2 g2 => ?_)
    refine jr_aload rfl rfl ?_
    refine jr_aload rfl rfl ?_
    refine jr_aload rfl rfl ?_
    refine jr_getM rfl rfl rfl rfl hA.1 ?_
    refine jr_cv1 (mc' := 0) (ms' := 0) rfl jm_Poll_maskByLaw_n jm_Poll_maskByLaw_f rfl rfl rfl rfl rfl rfl rfl (Nat.zero_le _) (Nat.zero_le _) ?_
    refine ev_Poll_maskByLaw (c := c) hw hA hR hmo (show jy_Pf S2 (jh_I h 7 r 13) hm b from ⟨congrFun (f2 5 (by decide) (by decide)) 7, congrFun (f2 5 (by decide) (by decide)) 8, fun l hl => (congrArg (· + nI l) (congrFun (f2 5 (by decide) (by decide)) 9)).trans (jz_drift hw hmo hL hL1 hL2 hv hl), fun _ => g2⟩) (fun S3 v3 f3 hm3 => ?_)
    refine jr_putI rfl rfl ?_
    refine jr_vret rfl rfl (Nat.zero_le _) (Nat.zero_le _) ?_
    simp only [jP_5, jP_r5]
    have hPf := (show jy_Pf S2 (jh_I h 7 r 13) hm b from ⟨congrFun (f2 5 (by decide) (by decide)) 7, congrFun (f2 5 (by decide) (by decide)) 8, fun l hl => (congrArg (· + nI l) (congrFun (f2 5 (by decide) (by decide)) 9)).trans (jz_drift hw hmo hL hL1 hL2 hv hl), fun _ => g2⟩)
    refine k _ ?_ (fun l hl => hm3 l hl)
    have e5 := f3 5 (by decide)
    have e40 := f3 40 (by decide)
    have e41 := f3 41 (by decide)
    obtain ⟨q1, q2, q3, q4⟩ := hPf
    refine ⟨?_, ?_, fun l hl => ?_, fun z p l hp hl => ?_⟩
    · exact (congrFun e5 7).trans q1
    · exact (congrFun e5 8).trans q2
    · exact (congrArg (· + nI l) (congrFun e5 9)).trans (q3 l hl)
    · exact ⟨(congrFun e40 _).trans (q4 z p l hp hl).1, (congrFun e41 _).trans (q4 z p l hp hl).2⟩

set_option maxHeartbeats 800000 in
set_option maxRecDepth 100000 in
theorem ev_Poll_mayBe {d : Nat} {h : jx_H} {Q : Option jx_V → jx_H → Prop} {S : Nat → Nat → Int32} {l kc : Nat} (hl : l < 32) (hQ : Q (some (jv_i (if jy_u (S 5 6) l = 0 then 0 else 1))) (jP h S kc)) : jx_Ev jm_Poll_mayBe (d + 1) 0 0 false 0 [jv_r 5 0, jv_i (nI l)] (jP h S kc) Q := by
  show jx_W (jm_Poll_mayBe, d + 1, 0, 0, false, 0, _) Q 0 0 0 [some (jv_r 5 0), some (jv_i (nI l))] [] _
  refine jr_iload rfl rfl ?_
  refine jr_cn1 (mc' := 0) (ms' := 0) rfl jm_JV_isLength_n jm_JV_isLength_f rfl rfl (by first | exact Or.inl ⟨rfl, rfl⟩ | exact Or.inr ⟨rfl, rfl⟩) rfl rfl rfl rfl (Nat.zero_le _) (Nat.zero_le _) ?_
  show jx_W (jm_JV_isLength, _, _, _, _, _, _) _ 0 0 0 [some _] [] _
  refine jr_iload rfl rfl ?_
  refine jr_if_lt rfl (fun z => absurd z (nI_pos (by omega))) (fun _ => ?_)
  refine jr_iload rfl rfl ?_
  refine jr_ic rfl ?_
  refine jr_icmp_gt rfl (fun z => absurd z (nI_nlt (a := 31) (b := l) (by omega) (by omega))) (fun _ => ?_)
  refine jr_ic rfl ?_
  refine jr_goto rfl ?_
  refine jr_zret rfl rfl rfl (Nat.zero_le _) (Nat.zero_le _) ?_
  refine jr_if_eq rfl (fun z => absurd z (by decide)) (fun _ => ?_)
  refine jr_aload rfl rfl ?_
  refine jr_getI rfl rfl ?_
  refine jr_iload rfl rfl ?_
  refine jr_iushr rfl ?_
  refine jr_ic rfl ?_
  refine jr_iand rfl ?_
  refine jr_if_eq rfl (fun c9 => ?_) (fun c9 => ?_)
  · refine jr_ic rfl ?_
    refine jr_zret rfl rfl rfl (Nat.zero_le _) (Nat.zero_le _) ?_
    rw [if_pos (show jy_u (S 5 6) l = 0 from c9)] at hQ
    exact hQ
  · refine jr_ic rfl ?_
    refine jr_goto rfl ?_
    refine jr_zret rfl rfl rfl (Nat.zero_le _) (Nat.zero_le _) ?_
    rw [if_neg (show ¬ jy_u (S 5 6) l = 0 from c9)] at hQ
    exact hQ

theorem jw_mayb_01 {h : jx_H} {b l : Nat} : jw_mayb h b l = 0 ∨ jw_mayb h b l = 1 := by
  unfold jw_mayb jw_may
  split
  · split
    · exact Or.inr rfl
    · by_cases e : jw_m0 (jC h b 3 (jw_month (jC h b) (jA h)).toNatClampNeg) (jC h b 4 (jw_month (jC h b) (jA h)).toNatClampNeg) (jC h b 18 5) (jw_law h b) l = 0
      · exact Or.inl e
      · exact Or.inr (jw_m0_01 e)
  · exact Or.inl rfl
theorem jw_mayb_if {h : jx_H} {b l : Nat} : (if jw_mayb h b l = 0 then (0 : Int32) else 1) = jw_mayb h b l := by
  rcases jw_mayb_01 (h := h) (b := b) (l := l) with e | e
  · rw [e]; rfl
  · rw [e]; rfl
set_option maxHeartbeats 800000 in
set_option maxRecDepth 100000 in
theorem lp_Poll_voteOf {d n0 : Nat} {Q : Option jx_V → jx_H → Prop} {h hm : jx_H} {b c r : Nat} {p : Nat} {S0 : Nat → Nat → Int32} (S : Nat → Nat → Int32) (l : Nat) (best most : Int32) (hw : jz_W hm b) (hA : jy_A h c r (jA hm)) (hR : jy_R h r hm b) (hmo : ¬ jC hm b 0 0 = 0) (hP : jy_Pf S0 (jh_I h 7 r 13) hm b) (hM : jy_Pm S0 hm b) (hp : p < 5) (hl : l ≤ 32) (hfr : ∀ x, x ≠ 37 → S x = S0 x) (hbest : best = -1 ∨ ¬ best < 0) (k : ∀ S' : Nat → Nat → Int32, (∀ x, x ≠ 37 → S' x = S0 x) → Q (some (jv_i (jw_best (fun l => jw_worth hm b p (nI l) (jz_nd hm b)) (jw_mayb hm b) (32 - l) l best most))) (jP h S' (c + 1)))  : jx_W (jm_Poll_voteOf, d + 2, 0, 0, false, 0, n0) Q 0 0 6 [some (jv_r 5 0), some (jv_i (nI p)), some (jv_i best), some (jv_i most), some (jv_i (nI l)), none] [] (jP h S (c + 1)) := by
  have hP' : jy_Pf S (jh_I h 7 r 13) hm b := by
    unfold jy_Pf at hP ⊢
    rw [hfr 5 (by decide), hfr 40 (by decide), hfr 41 (by decide)]
    exact hP
  have hM' : ∀ l, l < 32 → jy_u (S 5 6) l = jw_mayb hm b l := by rw [hfr 5 (by decide)]; exact hM
  refine jr_iload rfl rfl ?_
  refine jr_ic rfl ?_
  refine jr_icmp_ge rfl (fun c8 => ?_) (fun c8 => ?_)
  · refine jr_iload rfl rfl ?_
    refine jr_iret rfl rfl (Nat.zero_le _) (Nat.zero_le _) ?_
    have hx1 : 32 ≤ l := jn_le (show nI 32 ≤ nI l from c8) (by omega) (by omega)
    have := k S hfr
    rw [show 32 - l = 0 by omega] at this
    exact this
  · have hl1 : l < 32 := jn_nle (show ¬ nI 32 ≤ nI l from c8) (by omega) (by omega)
    refine jr_aload rfl rfl ?_
    refine jr_iload rfl rfl ?_
    refine jr_cv1 (mc' := 0) (ms' := 0) rfl jm_Poll_mayBe_n jm_Poll_mayBe_f rfl rfl rfl rfl rfl rfl rfl (Nat.zero_le _) (Nat.zero_le _) ?_
    refine ev_Poll_mayBe hl1 ?_
    rw [hM' l hl1, jw_mayb_if]
    refine jr_if_eq rfl (fun c12 => ?_) (fun c12 => ?_)
    · refine jr_iinc4 rfl rfl ?_
      refine jr_goto rfl ?_
      rw [jn_S]
      have hn : 32 - l = (32 - (l + 1)) + 1 := by omega
      refine (lp_Poll_voteOf S (l + 1) _ _ hw hA hR hmo hP hM hp (by omega) hfr hbest (fun S2 f2 => ?_))
      have := k S2 f2
      rw [hn, jw_best, if_pos c12] at this
      exact this
    · refine jr_aload rfl rfl ?_
      refine jr_iload rfl rfl ?_
      refine jr_iload rfl rfl ?_
      refine jr_iload rfl rfl ?_
      refine jr_cv3 (mc' := 0) (ms' := 0) rfl jm_Poll_valueOf_n jm_Poll_valueOf_f rfl rfl rfl rfl rfl rfl rfl (Nat.zero_le _) (Nat.zero_le _) ?_
      refine eP_worth hw hmo hA hR hP' hp hl1 (fun S1 f1 => ?_)
      refine jr_ist5 rfl rfl ?_
      refine jr_iload rfl rfl ?_
      refine jr_ic rfl ?_
      refine jr_icmp_eq rfl (fun c21 => ?_) (fun c21 => ?_)
      · refine jr_iload rfl rfl ?_
        refine jr_ist2 rfl rfl ?_
        refine jr_iload rfl rfl ?_
        refine jr_ist3 rfl rfl ?_
        refine jr_iinc4 rfl rfl ?_
        refine jr_goto rfl ?_
        rw [jn_S]
        have hn : 32 - l = (32 - (l + 1)) + 1 := by omega
        refine jr_drop 5 (lp_Poll_voteOf S1 (l + 1) _ _ hw hA hR hmo hP hM hp (by omega) (fun x hx => (f1 x hx).trans (hfr x hx)) (Or.inr (nI_pos (by omega))) (fun S2 f2 => ?_))
        have := k S2 f2
        rw [hn, jw_best, if_neg c12, if_pos (show best < 0 by rw [c21]; decide)] at this
        exact this
      · refine jr_iload rfl rfl ?_
        refine jr_iload rfl rfl ?_
        refine jr_icmp_le rfl (fun c24 => ?_) (fun c24 => ?_)
        · refine jr_iinc4 rfl rfl ?_
          refine jr_goto rfl ?_
          have hb0 : ¬ best < 0 := hbest.resolve_left c21
          rw [jn_S]
          have hn : 32 - l = (32 - (l + 1)) + 1 := by omega
          refine jr_drop 5 (lp_Poll_voteOf S1 (l + 1) _ _ hw hA hR hmo hP hM hp (by omega) (fun x hx => (f1 x hx).trans (hfr x hx)) hbest (fun S2 f2 => ?_))
          have := k S2 f2
          rw [hn, jw_best, if_neg c12, if_neg hb0, if_neg (Int32.not_lt.mpr c24)] at this
          exact this
        · refine jr_iload rfl rfl ?_
          refine jr_ist2 rfl rfl ?_
          refine jr_iload rfl rfl ?_
          refine jr_ist3 rfl rfl ?_
          refine jr_iinc4 rfl rfl ?_
          refine jr_goto rfl ?_
          have hb0 : ¬ best < 0 := hbest.resolve_left c21
          rw [jn_S]
          have hn : 32 - l = (32 - (l + 1)) + 1 := by omega
          refine jr_drop 5 (lp_Poll_voteOf S1 (l + 1) _ _ hw hA hR hmo hP hM hp (by omega) (fun x hx => (f1 x hx).trans (hfr x hx)) (Or.inr (nI_pos (by omega))) (fun S2 f2 => ?_))
          have := k S2 f2
          rw [hn, jw_best, if_neg c12, if_neg hb0, if_pos (Int32.not_le.mp c24)] at this
          exact this
termination_by 32 - l
decreasing_by all_goals omega

set_option maxHeartbeats 800000 in
set_option maxRecDepth 100000 in
theorem ev_Poll_voteOf {d : Nat} {h : jx_H} {Q : Option jx_V → jx_H → Prop} {hm : jx_H} {b c r p : Nat} {S0 : Nat → Nat → Int32} (hw : jz_W hm b) (hA : jy_A h c r (jA hm)) (hR : jy_R h r hm b) (hmo : ¬ jC hm b 0 0 = 0) (hP : jy_Pf S0 (jh_I h 7 r 13) hm b) (hM : jy_Pm S0 hm b) (hp : p < 5) (k : ∀ S' : Nat → Nat → Int32, (∀ x, x ≠ 37 → S' x = S0 x) → Q (some (jv_i (jw_voteb hm b p))) (jP h S' (c + 1)))  : jx_Ev jm_Poll_voteOf (d + 2) 0 0 false 0 [jv_r 5 0, jv_i (nI p)] (jP h S0 (c + 1)) Q := by
  show jx_W (jm_Poll_voteOf, d + 2, 0, 0, false, 0, _) Q 0 0 0 [some (jv_r 5 0), some (jv_i (nI p)), none, none, none, none] [] _
  refine jr_ic rfl ?_
  refine jr_ist2 rfl rfl ?_
  refine jr_ic rfl ?_
  refine jr_ist3 rfl rfl ?_
  refine jr_ic rfl ?_
  refine jr_ist4 rfl rfl ?_
  exact lp_Poll_voteOf S0 0 _ _ hw hA hR hmo hP hM hp (by omega) (fun _ _ => rfl) (Or.inl rfl) k

