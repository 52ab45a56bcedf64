def jw_tv (V : Nat → Nat) (s : Int32) (v p : Nat) : Nat := if bt s p = true then v else V p
def jw_out (hm : jx_H) (b : Nat) (s : Int32) (v : Nat) : Int32 := jw_count (jw_mayb hm b) (jC hm b 15 0) (jz_np hm b) (jw_tv (jw_V hm b) s v) (fun p => jA hm (7 + p))
/-- the class's sway has begun -/
def jy_S (S : Nat → Nat → Int32) (asks : Int32) (hm : jx_H) (b : Nat) : Prop := jy_Pf S asks hm b ∧ jy_Pm S hm b ∧ (∀ p, p < jz_np hm b → S 42 p = nI (jw_V hm b p)) ∧ S 8 4 = nI (jz_np hm b)
theorem jy_S_fr {S S' : Nat → Nat → Int32} {asks : Int32} {hm : jx_H} {b : Nat} (h : jy_S S asks hm b) (hf : ∀ x, x = 5 ∨ x = 40 ∨ x = 41 ∨ x = 42 ∨ x = 8 → S' x = S x) : jy_S S' asks hm b := by
  obtain ⟨h1, h2, h3, h4⟩ := h
  refine ⟨?_, ?_, ?_, ?_⟩
  · unfold jy_Pf at h1 ⊢
    rw [hf 5 (by decide), hf 40 (by decide), hf 41 (by decide)]; exact h1
  · unfold jy_Pm at h2 ⊢
    rw [hf 5 (by decide)]; exact h2
  · rw [hf 42 (by decide)]; exact h3
  · rw [hf 8 (by decide)]; exact h4
set_option maxHeartbeats 800000 in
set_option maxRecDepth 100000 in
theorem ev_Sway_begin {d : Nat} {h : jx_H} {Q : Option jx_V → jx_H → Prop} {hm : jx_H} {b r : Nat} (hw : jz_W hm b) (hA : jy_A h 0 r (jA hm)) (hR : jy_R h r hm b) (hmo : ¬ jC hm b 0 0 = 0) (k : ∀ S' : Nat → Nat → Int32, jy_S S' (jh_I h 7 r 13) hm b → Q none (jP h S' (0 + 1))) : jx_Ev jm_Sway_begin (d + 6) 0 0 false 0 [jv_r 8 0, jv_r 1 0] h Q := by
  show jx_W (jm_Sway_begin, d + 6, 0, 0, false, 0, _) Q 0 0 0 [some (jv_r 8 0), some (jv_r 1 0)] [] _
  have hnp := hw.2.2.1.2.1
  refine jr_aload rfl rfl ?_
  refine jr_getR rfl rfl rfl rfl (Or.inl rfl) ?_
  refine jr_aload rfl rfl ?_
  refine jr_cv1 (mc' := 0) (ms' := 0) rfl jm_Poll_open_n jm_Poll_open_f rfl rfl rfl rfl rfl rfl rfl (Nat.zero_le _) (Nat.zero_le _) ?_
  refine eB_open hw hA hR hmo (fun S1 hP1 hM1 => ?_)
  refine jr_aload rfl rfl ?_
  refine jr_getR rfl rfl rfl rfl (Or.inl rfl) ?_
  refine jr_aload rfl rfl ?_
  refine jr_getR rfl rfl rfl rfl (Or.inl rfl) ?_
  refine jr_cv1 (mc' := 0) (ms' := 0) rfl jm_Poll_takeBallots_n jm_Poll_takeBallots_f rfl rfl rfl rfl rfl rfl rfl (Nat.zero_le _) (Nat.zero_le _) ?_
  refine ev_take42 hw hA hR hmo hP1 hM1 (fun S2 f2 hV2 => ?_)
  refine jr_aload rfl rfl ?_
  refine jr_aload rfl rfl ?_
  refine jr_getM rfl rfl rfl rfl hA.1 ?_
  refine jr_getI rfl rfl ?_
  refine jr_ic rfl ?_
  refine jr_cs2 (mc' := 0) (ms' := 0) rfl jm_Math_min_n jm_Math_min_f rfl rfl rfl rfl rfl (Nat.zero_le _) (Nat.zero_le _) ?_
  rw [show jh_I (jP h S2 (0 + 1)) 7 r 3 = nI (jz_np hm b) from hR.2.1.trans hnp.1]
  refine ev_minN (w := jz_np hm b) (n := 5) rfl rfl hnp.2 (by decide) ?_
  refine jr_putI rfl rfl ?_
  refine jr_vret rfl rfl (Nat.zero_le _) (Nat.zero_le _) ?_
  simp only [jP_8, jP_r8]
  refine k _ ⟨?_, ?_, fun p hp => ?_, show upd (S2 8) 4 (nI (jz_np hm b)) 4 = _ from jg_us _ _ _⟩
  · unfold jy_Pf at hP1 ⊢
    show (S2 5 7 = _) ∧ (S2 5 8 = _) ∧ (∀ l, l < 32 → S2 5 9 + nI l = _) ∧ (¬ jh_I h 7 r 13 = 0 → ∀ p l, p < 5 → l < 32 → S2 40 (p * 32 + l) = _ ∧ S2 41 (p * 32 + l) = _)
    rw [f2 5 (by decide) (by decide), f2 40 (by decide) (by decide), f2 41 (by decide) (by decide)]
    exact hP1
  · intro l hl
    show jy_u (S2 5 6) l = _
    rw [f2 5 (by decide) (by decide)]; exact hM1 l hl
  · exact (hV2 p hp).trans (jw_V_eq hw hmo).1

set_option maxHeartbeats 800000 in
set_option maxRecDepth 100000 in
theorem lp_turns {d n0 : Nat} {Q : Option jx_V → jx_H → Prop} {h hm : jx_H} {b r v : Nat} {s : Int32} {S0 : Nat → Nat → Int32} (S : Nat → Nat → Int32) (p : Nat) (hw : jz_W hm b) (hA : jy_A h 0 r (jA hm)) (hR : jy_R h r hm b) (hmo : ¬ jC hm b 0 0 = 0) (hS : jy_S S0 (jh_I h 7 r 13) hm b) (hv : v < 32) (hp : p ≤ jz_np hm b) (hfr : ∀ x, x ≠ 38 → x ≠ 43 → S x = S0 x) (hV : ∀ q, q < p → S 43 q = nI (jw_tv (jw_V hm b) s v q)) (k : ∀ S' : Nat → Nat → Int32, (∀ x, x ≠ 38 → x ≠ 43 → S' x = S0 x) → Q (some (jv_i (if jw_out hm b s v = nI v then 1 else 0))) (jP h S' (0 + 1)))  : jx_W (jm_Sway_turns, d + 6, 0, 0, false, 0, n0) Q 0 0 2 [some (jv_r 8 0), some (jv_i s), some (jv_i (nI v)), some (jv_i (nI p))] [] (jP h S (0 + 1)) := by
  have hnp5 := hw.2.2.1.2.1.2
  have h8 : S 8 4 = nI (jz_np hm b) := by rw [hfr 8 (by decide) (by decide)]; exact hS.2.2.2
  have hM' : jy_Pm S hm b := by have := hS.2.1; unfold jy_Pm at this ⊢; rw [hfr 5 (by decide) (by decide)]; exact this
  refine jr_iload rfl rfl ?_
  refine jr_aload rfl rfl ?_
  refine jr_getI rfl rfl ?_
  rw [show jh_I (jP h S (0 + 1)) 8 0 4 = nI (jz_np hm b) from h8]
  refine jr_icmp_ge rfl (fun c5 => ?_) (fun c5 => ?_)
  · refine jr_aload rfl rfl ?_
    refine jr_getR rfl rfl rfl rfl (Or.inl rfl) ?_
    refine jr_aload rfl rfl ?_
    refine jr_getR rfl rfl rfl rfl (Or.inl rfl) ?_
    refine jr_cv1 (mc' := 0) (ms' := 0) rfl jm_Poll_outcome_n jm_Poll_outcome_f rfl rfl rfl rfl rfl rfl rfl (Nat.zero_le _) (Nat.zero_le _) ?_
    have hp2 : p = jz_np hm b := by have := jn_le (show nI (jz_np hm b) ≤ nI p from c5) (by omega) (by omega); omega
    subst hp2
    refine ev_outcome43 (V := jw_tv (jw_V hm b) s v) hw hA hR hmo hM' (fun q hq => ⟨hV q (by omega), by unfold jw_tv; split; exact hv; exact (jw_V_eq hw hmo).2.1⟩) (fun S3 f3 => ?_)
    refine jr_iload rfl rfl ?_
    refine jr_icmp_ne rfl (fun c28 => ?_) (fun c28 => ?_)
    · refine jr_ic rfl ?_
      refine jr_zret rfl rfl rfl (Nat.zero_le _) (Nat.zero_le _) ?_
      have := k S3 (fun x h1 h2 => (f3 x h1).trans (hfr x h1 h2))
      rw [if_neg (show ¬ jw_out hm b s v = nI v from c28)] at this
      exact this
    · refine jr_ic rfl ?_
      refine jr_goto rfl ?_
      refine jr_zret rfl rfl rfl (Nat.zero_le _) (Nat.zero_le _) ?_
      have := k S3 (fun x h1 h2 => (f3 x h1).trans (hfr x h1 h2))
      rw [if_pos (show jw_out hm b s v = nI v from c28)] at this
      exact this
  · have hp1 : p < jz_np hm b := jn_nle (show ¬ nI (jz_np hm b) ≤ nI p from c5) (by omega) (by omega)
    have h42 : S 42 p = nI (jw_V hm b p) := by rw [hfr 42 (by decide) (by decide)]; exact hS.2.2.1 p hp1
    refine jr_aload rfl rfl ?_
    refine jr_getR rfl rfl rfl rfl (Or.inl rfl) ?_
    refine jr_iload rfl rfl ?_
    refine jr_iload rfl rfl ?_
    refine jr_iload rfl rfl ?_
    refine jr_cs2 (mc' := 0) (ms' := 0) rfl jm_Sway_isIn_n jm_Sway_isIn_f rfl rfl rfl rfl rfl (Nat.zero_le _) (Nat.zero_le _) ?_
    show jx_W (jm_Sway_isIn, _, _, _, _, _, _) _ 0 0 0 [some _, some _] [] _
    refine jr_iload rfl rfl ?_
    refine jr_iload rfl rfl ?_
    refine jr_iushr rfl ?_
    refine jr_ic rfl ?_
    refine jr_iand rfl ?_
    rw [show (s.toUInt32 >>> ((nI p).toUInt32 &&& Int32.toUInt32 31)).toInt32 &&& 1 = if bt s p = true then 1 else 0 from jy_u_bt (by omega)]
    refine jr_if_eq rfl (fun c5SwayisIn => ?_) (fun c5SwayisIn => ?_)
    · refine jr_ic rfl ?_
      refine jr_zret rfl rfl rfl (Nat.zero_le _) (Nat.zero_le _) ?_
      refine jr_if_eq rfl (fun _ => ?_) (fun z => absurd (by decide) z)
      refine jr_aload rfl rfl ?_
      refine jr_getR rfl rfl rfl rfl (Or.inl rfl) ?_
      refine jr_iload rfl rfl ?_
      refine jr_iald (len := 5) rfl rfl rfl (by omega) ?_
      rw [show jh_I (jP h S (0 + 1)) 42 0 p = nI (jw_V hm b p) from h42]
      refine jr_iast (len := 5) rfl rfl rfl (by omega) ?_
      refine jr_iinc3 rfl rfl ?_
      refine jr_goto rfl ?_
      simp only [jP_43, jP_r43]
      rw [jn_S]
      refine lp_turns _ (p + 1) hw hA hR hmo hS hv (by omega) (fun x h1 h2 => (if_neg h2).trans (hfr x h1 h2)) (fun q hq => ?_) k
      show upd (S 43) p (nI (jw_V hm b p)) q = _
      by_cases e : q = p
      · rw [e, jg_us]
        unfold jw_tv
        rw [if_neg (jc_b0 c5SwayisIn)]
      · rw [jg_un e]; exact hV q (by omega)
    · refine jr_ic rfl ?_
      refine jr_goto rfl ?_
      refine jr_zret rfl rfl rfl (Nat.zero_le _) (Nat.zero_le _) ?_
      refine jr_if_eq rfl (fun z => absurd z (by decide)) (fun _ => ?_)
      refine jr_iload rfl rfl ?_
      refine jr_goto rfl ?_
      skip
      refine jr_iast (len := 5) rfl rfl rfl (by omega) ?_
      refine jr_iinc3 rfl rfl ?_
      refine jr_goto rfl ?_
      simp only [jP_43, jP_r43]
      rw [jn_S]
      refine lp_turns _ (p + 1) hw hA hR hmo hS hv (by omega) (fun x h1 h2 => (if_neg h2).trans (hfr x h1 h2)) (fun q hq => ?_) k
      show upd (S 43) p (nI v) q = _
      by_cases e : q = p
      · rw [e, jg_us]
        unfold jw_tv
        rw [if_pos (jc_b1 c5SwayisIn)]
      · rw [jg_un e]; exact hV q (by omega)
termination_by jz_np hm b - p
decreasing_by all_goals omega

set_option maxHeartbeats 800000 in
set_option maxRecDepth 100000 in
theorem ev_turns {d : Nat} {h : jx_H} {Q : Option jx_V → jx_H → Prop} {hm : jx_H} {b r v : Nat} {s : Int32} {S0 : Nat → Nat → Int32} (hw : jz_W hm b) (hA : jy_A h 0 r (jA hm)) (hR : jy_R h r hm b) (hmo : ¬ jC hm b 0 0 = 0) (hS : jy_S S0 (jh_I h 7 r 13) hm b) (hv : v < 32) (k : ∀ S' : Nat → Nat → Int32, (∀ x, x ≠ 38 → x ≠ 43 → S' x = S0 x) → Q (some (jv_i (if jw_out hm b s v = nI v then 1 else 0))) (jP h S' (0 + 1)))  : jx_Ev jm_Sway_turns (d + 6) 0 0 false 0 [jv_r 8 0, jv_i s, jv_i (nI v)] (jP h S0 (0 + 1)) Q := by
  show jx_W (jm_Sway_turns, d + 6, 0, 0, false, 0, _) Q 0 0 0 [some (jv_r 8 0), some (jv_i s), some (jv_i (nI v)), none] [] _
  refine jr_ic rfl ?_
  refine jr_ist3 rfl rfl ?_
  exact lp_turns S0 0 hw hA hR hmo hS hv (Nat.zero_le _) (fun _ _ _ => rfl) (fun q hq => absurd hq (by omega)) k

set_option maxHeartbeats 800000 in
set_option maxRecDepth 100000 in
theorem lp_MD_isT {d n0 : Nat} {Q : Option jx_V → jx_H → Prop} {hm : jx_H} {b v : Nat} {s : Int32} {S0 : Nat → Nat → Int32} (S : Nat → Nat → Int32) (p : Nat) (hw : jz_W hm b) (hS : jz_S hm S) (hmo : ¬ jC hm b 0 0 = 0) (hv : v < 32) (hM : ∀ j, j < 32 → S0 100 j = jw_mayb hm b j) (h104 : ∀ p, p < jz_np hm b → S0 104 p = nI (jw_V hm b p)) (hp : p ≤ jz_np hm b) (hfr : ∀ x, x ≠ 101 → x ≠ 102 → S x = S0 x) (hV : ∀ q, q < p → S 101 q = nI (jw_tv (jw_V hm b) s v q)) (k : ∀ S' : Nat → Nat → Int32, jz_S hm S' → (∀ x, x ≠ 101 → x ≠ 102 → S' x = S0 x) → Q (some (jv_i (if jw_out hm b s v = nI v then 1 else 0))) (jS hm S'))  : jx_W (jm_MD_isTurnedBy, d + 4, 0, 0, false, 1, n0) Q 0 0 2 [some (jv_r 11 0), some (jv_i s), some (jv_i (nI v)), some (jv_i (nI p))] [] (jS hm S) := by
  have hb2 := hw.2.1
  have hnp := hw.2.2.1.2.1
  have hnp5 := hnp.2
  refine jr_iload rfl rfl ?_
  refine jr_aload rfl rfl ?_
  refine jr_cv0 (mc' := 0) (ms' := 0) rfl jm_MD_personMany_n jm_MD_personMany_f rfl rfl rfl rfl rfl rfl rfl (Nat.zero_le _) (Nat.zero_le _) ?_
  show jx_W (jm_MD_personMany, _, _, _, _, _, _) _ 0 0 0 [some _] [] _
  refine jr_aload rfl rfl ?_
  refine jr_getR rfl rfl rfl rfl (Or.inl rfl) ?_
  refine jr_aload rfl rfl ?_
  refine jr_getI rfl rfl ?_
  refine jr_iald (len := 2) rfl rfl (jz_bank hw hS) (by omega) ?_
  refine jr_iret rfl rfl (Nat.zero_le _) (Nat.zero_le _) ?_
  rw [show jh_I (jS hm S) 67 0 b = nI (jz_np hm b) from hnp.1]
  refine jr_icmp_ge rfl (fun c5 => ?_) (fun c5 => ?_)
  · refine jr_aload rfl rfl ?_
    refine jr_cv0 (mc' := 0) (ms' := 0) rfl jm_MD_countedBy_n jm_MD_countedBy_f rfl rfl rfl rfl rfl rfl rfl (Nat.zero_le _) (Nat.zero_le _) ?_
    have hp2 : p = jz_np hm b := by have := jn_le (show nI (jz_np hm b) ≤ nI p from c5) (by omega) (by omega); omega
    subst hp2
    refine eS_countedBy (b := b) (M := jw_mayb hm b) (V := jw_tv (jw_V hm b) s v) hw hS (fun q hq => ⟨hV q hq, by unfold jw_tv; split; exact hv; exact (jw_V_eq hw hmo).2.1⟩) (fun j hj => by rw [hfr 100 (by decide) (by decide)]; exact hM j hj) (jw_mayb_ex hw hmo) (fun S3 hS3 f3 => ?_)
    refine jr_iload rfl rfl ?_
    refine jr_icmp_ne rfl (fun c28 => ?_) (fun c28 => ?_)
    · refine jr_ic rfl ?_
      refine jr_zret rfl rfl rfl (Nat.zero_le _) (Nat.zero_le _) ?_
      have := k S3 hS3 (fun x h1 h2 => (f3 x h2).trans (hfr x h1 h2))
      rw [if_neg (show ¬ jw_out hm b s v = nI v from c28)] at this
      exact this
    · refine jr_ic rfl ?_
      refine jr_goto rfl ?_
      refine jr_zret rfl rfl rfl (Nat.zero_le _) (Nat.zero_le _) ?_
      have := k S3 hS3 (fun x h1 h2 => (f3 x h2).trans (hfr x h1 h2))
      rw [if_pos (show jw_out hm b s v = nI v from c28)] at this
      exact this
  · have hp1 : p < jz_np hm b := jn_nle (show ¬ nI (jz_np hm b) ≤ nI p from c5) (by omega) (by omega)
    have h104' : S 104 p = nI (jw_V hm b p) := by rw [hfr 104 (by decide) (by decide)]; exact h104 p hp1
    refine jr_aload rfl rfl ?_
    refine jr_getR rfl rfl rfl rfl (Or.inl rfl) ?_
    refine jr_iload rfl rfl ?_
    refine jr_iload rfl rfl ?_
    refine jr_iload rfl rfl ?_
    refine jr_ishr rfl ?_
    refine jr_ic rfl ?_
    refine jr_iand rfl ?_
    rw [jy_s_bt (m := s) (l := p) (by omega)]
    refine jr_ic rfl ?_
    refine jr_icmp_ne rfl (fun c15 => ?_) (fun c15 => ?_)
    · refine jr_aload rfl rfl ?_
      refine jr_getR rfl rfl rfl rfl (Or.inl rfl) ?_
      refine jr_iload rfl rfl ?_
      refine jr_iald (len := 5) rfl rfl rfl (by omega) ?_
      rw [show jh_I (jS hm S) 104 0 p = nI (jw_V hm b p) from h104']
      refine jr_iast (len := 5) rfl rfl rfl (by omega) ?_
      refine jr_iinc3 rfl rfl ?_
      refine jr_goto rfl ?_
      simp only [jS_101, jS_r101]
      rw [jn_S]
      refine lp_MD_isT _ (p + 1) hw hS hmo hv hM h104 (by omega) (fun x h1 h2 => (if_neg h1).trans (hfr x h1 h2)) (fun q hq => ?_) k
      show upd (S 101) p (nI (jw_V hm b p)) q = _
      by_cases e : q = p
      · rw [e, jg_us]
        unfold jw_tv
        rw [if_neg (fun z => c15 (by rw [if_pos z]))]
      · rw [jg_un e]; exact hV q (by omega)
    · refine jr_iload rfl rfl ?_
      refine jr_goto rfl ?_
      skip
      refine jr_iast (len := 5) rfl rfl rfl (by omega) ?_
      refine jr_iinc3 rfl rfl ?_
      refine jr_goto rfl ?_
      simp only [jS_101, jS_r101]
      rw [jn_S]
      refine lp_MD_isT _ (p + 1) hw hS hmo hv hM h104 (by omega) (fun x h1 h2 => (if_neg h1).trans (hfr x h1 h2)) (fun q hq => ?_) k
      show upd (S 101) p (nI v) q = _
      by_cases e : q = p
      · rw [e, jg_us]
        unfold jw_tv
        rw [if_pos (jc_b1 (by rw [c15]; decide))]
      · rw [jg_un e]; exact hV q (by omega)
termination_by jz_np hm b - p
decreasing_by all_goals omega

set_option maxHeartbeats 800000 in
set_option maxRecDepth 100000 in
theorem eS_isT {d : Nat} {Q : Option jx_V → jx_H → Prop} {hm : jx_H} {b v : Nat} {s : Int32} {S : Nat → Nat → Int32} (hw : jz_W hm b) (hS : jz_S hm S) (hmo : ¬ jC hm b 0 0 = 0) (hv : v < 32) (hM : ∀ j, j < 32 → S 100 j = jw_mayb hm b j) (h104 : ∀ p, p < jz_np hm b → S 104 p = nI (jw_V hm b p)) (k : ∀ S' : Nat → Nat → Int32, jz_S hm S' → (∀ x, x ≠ 101 → x ≠ 102 → S' x = S x) → Q (some (jv_i (if jw_out hm b s v = nI v then 1 else 0))) (jS hm S'))  : jx_Ev jm_MD_isTurnedBy (d + 4) 0 0 false 1 [jv_r 11 0, jv_i s, jv_i (nI v)] (jS hm S) Q := by
  show jx_W (jm_MD_isTurnedBy, d + 4, 0, 0, false, 1, _) Q 0 0 0 [some (jv_r 11 0), some (jv_i s), some (jv_i (nI v)), none] [] _
  refine jr_ic rfl ?_
  refine jr_ist3 rfl rfl ?_
  exact lp_MD_isT S 0 hw hS hmo hv hM h104 (Nat.zero_le _) (fun _ _ _ => rfl) (fun q hq => absurd hq (by omega)) k

abbrev jw_as (hm : jx_H) (b v p : Nat) : Int32 := jw_worth hm b p (nI (jw_V hm b p)) (jz_nd hm b) - jw_worth hm b p (nI v) (jz_nd hm b)
set_option maxHeartbeats 800000 in
set_option maxRecDepth 100000 in
theorem lp_MD_canT {d n0 : Nat} {Q : Option jx_V → jx_H → Prop} {hm : jx_H} {b v : Nat} (S : Nat → Nat → Int32) (p : Nat) (hw : jz_W hm b) (hS : jz_S hm S) (hmo : ¬ jC hm b 0 0 = 0) (hv : v < 32) (hp : p ≤ jz_np hm b) (hM : ∀ j, j < 32 → S 100 j = jw_mayb hm b j) (hV : ∀ p, p < jz_np hm b → S 101 p = nI (jw_V hm b p)) (hI : ∀ q, q < p → S 104 q = nI (jw_V hm b q) ∧ S 105 q = jw_as hm b v q) (k : ∀ S' : Nat → Nat → Int32, jz_S hm S' → (∀ j, j < 32 → S' 100 j = jw_mayb hm b j) → (∀ p, p < jz_np hm b → S' 104 p = nI (jw_V hm b p) ∧ S' 105 p = jw_as hm b v p) → Q (some (jv_i (jw_mayb hm b v))) (jS hm S'))  : jx_W (jm_MD_canTurnTo, d + 8, 0, 0, false, 1, n0) Q 0 0 14 [some (jv_r 11 0), some (jv_i (nI v)), some (jv_i (nI p))] [] (jS hm S) := by
  have hb2 := hw.2.1
  have hnp := hw.2.2.1.2.1
  have hnp5 := hnp.2
  refine jr_iload rfl rfl ?_
  refine jr_aload rfl rfl ?_
  refine jr_cv0 (mc' := 0) (ms' := 0) rfl jm_MD_personMany_n jm_MD_personMany_f rfl rfl rfl rfl rfl rfl rfl (Nat.zero_le _) (Nat.zero_le _) ?_
  show jx_W (jm_MD_personMany, _, _, _, _, _, _) _ 0 0 0 [some _] [] _
  refine jr_aload rfl rfl ?_
  refine jr_getR rfl rfl rfl rfl (Or.inl rfl) ?_
  refine jr_aload rfl rfl ?_
  refine jr_getI rfl rfl ?_
  refine jr_iald (len := 2) rfl rfl (jz_bank hw hS) (by omega) ?_
  refine jr_iret rfl rfl (Nat.zero_le _) (Nat.zero_le _) ?_
  rw [show jh_I (jS hm S) 67 0 b = nI (jz_np hm b) from hnp.1]
  refine jr_icmp_ge rfl (fun c17 => ?_) (fun c17 => ?_)
  · refine jr_aload rfl rfl ?_
    refine jr_getR rfl rfl rfl rfl (Or.inl rfl) ?_
    refine jr_iload rfl rfl ?_
    refine jr_zald (len := 32) rfl rfl rfl (by omega) ?_
    rw [show jh_I (jS hm S) 100 0 v = jw_mayb hm b v from hM v hv]
    refine jr_zret rfl rfl (by rcases jw_mayb_01 (h := hm) (b := b) (l := v) with e | e <;> rw [e] <;> rfl) (Nat.zero_le _) (Nat.zero_le _) ?_
    have hp2 : p = jz_np hm b := by have := jn_le (show nI (jz_np hm b) ≤ nI p from c17) (by omega) (by omega); omega
    subst hp2
    exact k S hS hM hI
  · have hp1 : p < jz_np hm b := jn_nle (show ¬ nI (jz_np hm b) ≤ nI p from c17) (by omega) (by omega)
    refine jr_aload rfl rfl ?_
    refine jr_getR rfl rfl rfl rfl (Or.inl rfl) ?_
    refine jr_iload rfl rfl ?_
    refine jr_aload rfl rfl ?_
    refine jr_getR rfl rfl rfl rfl (Or.inl rfl) ?_
    refine jr_iload rfl rfl ?_
    refine jr_iald (len := 5) rfl rfl rfl (by omega) ?_
    rw [show jh_I (jS hm S) 101 0 p = nI (jw_V hm b p) from hV p hp1]
    refine jr_iast (len := 5) rfl rfl rfl (by omega) ?_
    simp only [jS_104, jS_r104]
    refine jr_aload rfl rfl ?_
    refine jr_getR rfl rfl rfl rfl (Or.inl rfl) ?_
    refine jr_iload rfl rfl ?_
    refine jr_aload rfl rfl ?_
    refine jr_iload rfl rfl ?_
    refine jr_aload rfl rfl ?_
    refine jr_getR rfl rfl rfl rfl (Or.inl rfl) ?_
    refine jr_iload rfl rfl ?_
    skip
    refine jr_iald (len := 5) rfl rfl rfl (by omega) ?_
    refine jr_cv2 (mc' := 0) (ms' := 0) rfl jm_MD_worthOf_n jm_MD_worthOf_f rfl rfl rfl rfl rfl rfl rfl (Nat.zero_le _) (Nat.zero_le _) ?_
    rw [show jh_I (jS hm (fun k => if k = 104 then upd (S 104) p (nI (jw_V hm b p)) else S k)) 101 0 p = nI (jw_V hm b p) from hV p hp1]
    refine eS_worthOf (b := b) (S := fun k => if k = 104 then upd (S 104) p (nI (jw_V hm b p)) else S k) hw hS hmo (by omega) (fun S1 hS1 f1 => ?_)
    refine jr_aload rfl rfl ?_
    refine jr_iload rfl rfl ?_
    refine jr_iload rfl rfl ?_
    refine jr_cv2 (mc' := 0) (ms' := 0) rfl jm_MD_worthOf_n jm_MD_worthOf_f rfl rfl rfl rfl rfl rfl rfl (Nat.zero_le _) (Nat.zero_le _) ?_
    refine eS_worthOf (b := b) hw hS1 hmo (by omega) (fun S2 hS2 f2 => ?_)
    refine jr_isub rfl ?_
    refine jr_iast (len := 5) rfl rfl rfl (by omega) ?_
    refine jr_iinc2 rfl rfl ?_
    refine jr_goto rfl ?_
    simp only [jS_105, jS_r105]
    rw [jn_S]
    have fr : ∀ x, x ≠ 11 → x ≠ 97 → S2 x = (if x = 104 then upd (S 104) p (nI (jw_V hm b p)) else S x) := fun x h1 h2 => (f2 x h1 h2).trans (f1 x h1 h2)
    refine lp_MD_canT _ (p + 1) hw hS2 hmo hv (by omega) (fun j hj => ?_) (fun q hq => ?_) (fun q hq => ?_) k
    · exact (congrFun (fr 100 (by decide) (by decide)) j).trans (hM j hj)
    · exact (congrFun (fr 101 (by decide) (by decide)) q).trans (hV q hq)
    · have e4 : S2 104 = upd (S 104) p (nI (jw_V hm b p)) := fr 104 (by decide) (by decide)
      have e5 : S2 105 = S 105 := fr 105 (by decide) (by decide)
      show S2 104 q = _ ∧ upd (S2 105) p (jw_as hm b v p) q = _
      rw [e4, e5]
      by_cases e : q = p
      · rw [e, jg_us, jg_us]; exact ⟨rfl, rfl⟩
      · rw [jg_un e, jg_un e]; exact hI q (by omega)
termination_by jz_np hm b - p
decreasing_by all_goals omega

theorem eB_layVotes {d : Nat} {hm : jx_H} {Q : Option jx_V → jx_H → Prop} {b : Nat} (hw : jz_W hm b) (hmo : ¬ jC hm b 0 0 = 0) (k : ∀ S' : Nat → Nat → Int32, jz_S hm S' → (∀ j, j < 32 → S' 100 j = jw_mayb hm b j) → (∀ p, p < jz_np hm b → S' 101 p = nI (jw_V hm b p)) → Q none (jS hm S')) : jx_Ev jm_MD_layVotes (d + 6) 0 0 false 1 [jv_r 11 0] hm Q := by
  have := eS_layVotes (d := d) (Q := Q) (S := fun a => jh_I hm a 0) hw (fun _ _ => rfl) hmo (fun S' h1 _ h2 h3 => k S' h1 h2 h3)
  rw [jS_self] at this
  exact this
set_option maxHeartbeats 800000 in
set_option maxRecDepth 100000 in
theorem eB_canT {d : Nat} {Q : Option jx_V → jx_H → Prop} {hm : jx_H} {b v : Nat} (hw : jz_W hm b) (hmo : ¬ jC hm b 0 0 = 0) (hv : v < 32) (k : ∀ S' : Nat → Nat → Int32, jz_S hm S' → (∀ j, j < 32 → S' 100 j = jw_mayb hm b j) → (∀ p, p < jz_np hm b → S' 104 p = nI (jw_V hm b p) ∧ S' 105 p = jw_as hm b v p) → Q (some (jv_i (jw_mayb hm b v))) (jS hm S'))  : jx_Ev jm_MD_canTurnTo (d + 8) 0 0 false 1 [jv_r 11 0, jv_i (nI v)] hm Q := by
  show jx_W (jm_MD_canTurnTo, d + 8, 0, 0, false, 1, _) Q 0 0 0 [some (jv_r 11 0), some (jv_i (nI v)), none] [] _
  have hb2 := hw.2.1
  have hnm := hw.2.2.1.1
  have hn0 := jz_nm0 hw.2.2.1 hmo
  refine jr_aload rfl rfl ?_
  refine jr_cv0 (mc' := 0) (ms' := 0) rfl jm_MD_hasMonths_n jm_MD_hasMonths_f rfl rfl rfl rfl rfl rfl rfl (Nat.zero_le _) (Nat.zero_le _) ?_
  show jx_W (jm_MD_hasMonths, _, _, _, _, _, _) _ 0 0 0 [some _] [] _
  refine jr_aload rfl rfl ?_
  refine jr_getR rfl rfl rfl rfl (Or.inl rfl) ?_
  refine jr_aload rfl rfl ?_
  refine jr_getI rfl rfl ?_
  refine jr_iald (len := 2) rfl rfl hw.1 (by omega) ?_
  rw [show jh_I hm 66 0 b = nI (jz_nm hm b) from hnm.1]
  refine jr_if_le rfl (fun z => absurd z (nI_nle hn0 (by omega))) (fun _ => ?_)
  refine jr_ic rfl ?_
  refine jr_goto rfl ?_
  refine jr_zret rfl rfl rfl (Nat.zero_le _) (Nat.zero_le _) ?_
  refine jr_if_eq rfl (fun z => absurd z (by decide)) (fun _ => ?_)
  refine jr_iload rfl rfl ?_
  refine jr_ic rfl ?_
  refine jr_ic rfl ?_
  refine jr_cs3 (mc' := 0) (ms' := 0) rfl jm_MD_isIn_n jm_MD_isIn_f rfl rfl rfl rfl rfl (Nat.zero_le _) (Nat.zero_le _) ?_
  show jx_W (jm_MD_isIn, _, _, _, _, _, _) _ 0 0 0 [some _, some _, some _] [] _
  refine jr_iload rfl rfl ?_
  refine jr_iload rfl rfl ?_
  refine jr_icmp_lt rfl (fun z => absurd z (nI_pos (by omega))) (fun _ => ?_)
  refine jr_iload rfl rfl ?_
  refine jr_iload rfl rfl ?_
  refine jr_icmp_gt rfl (fun z => absurd z (nI_nlt (a := 31) (b := v) (by omega) (by omega))) (fun _ => ?_)
  refine jr_ic rfl ?_
  refine jr_goto rfl ?_
  refine jr_zret rfl rfl rfl (Nat.zero_le _) (Nat.zero_le _) ?_
  refine jr_if_ne rfl (fun _ => ?_) (fun z => absurd z (by decide))
  refine jr_aload rfl rfl ?_
  refine jr_cv0 (mc' := 0) (ms' := 0) rfl jm_MD_layVotes_n jm_MD_layVotes_f rfl rfl rfl rfl rfl rfl rfl (Nat.zero_le _) (Nat.zero_le _) ?_
  refine eB_layVotes hw hmo (fun S1 hS1 hM1 hV1 => ?_)
  refine jr_ic rfl ?_
  refine jr_ist2 rfl rfl ?_
  exact lp_MD_canT S1 0 hw hS1 hmo hv (Nat.zero_le _) hM1 hV1 (fun q hq => absurd hq (by omega)) k

