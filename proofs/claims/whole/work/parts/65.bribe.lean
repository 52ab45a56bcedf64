def jw_smg (hm : jx_H) (b v : Nat) (s : Int32) : Nat → Nat → Int32 → Int32
  | 0, _, a => a
  | n + 1, p, a => jw_smg hm b v s n (p + 1) (if bt s p = true then a + jw_as hm b v p else a)
def jw_sms (hm : jx_H) (b v s : Nat) : Int32 := jw_smg hm b v (nI s) (jz_np hm b) 0 0
def jw_cs (hm : jx_H) (b v : Nat) : Nat → Nat → Option Nat → Option Nat
  | 0, _, o => o
  | n + 1, s, o => jw_cs hm b v n (s + 1) (if jw_out hm b (nI s) v = nI v then (match o with | none => some s | some q => if jw_sms hm b v q ≤ jw_sms hm b v s then some q else some s) else o)
theorem jw_cs_lt {hm : jx_H} {b v m : Nat} : ∀ n s o, (∀ q, o = some q → q < m) → s + n ≤ m → ∀ q, jw_cs hm b v n s o = some q → q < m
  | 0, _, _, ho, _, q, hq => ho q hq
  | n + 1, s, o, ho, hs, q, hq => by
    refine jw_cs_lt n (s + 1) _ (fun q' hq' => ?_) (by omega) q hq
    split at hq'
    · cases o with
      | none => cases hq'; omega
      | some q1 =>
        have h1 := ho q1 rfl
        simp only at hq'
        split at hq'
        · cases hq'; exact h1
        · cases hq'; omega
    · exact ho q' hq'
set_option maxHeartbeats 800000 in
set_option maxRecDepth 100000 in
theorem lp_asked {d n0 : Nat} {Q : Option jx_V → jx_H → Prop} {h hm : jx_H} {b r v : Nat} {s : Int32} {S0 : Nat → Nat → Int32} (S : Nat → Nat → Int32) (p : Nat) (acc : Int32) (hw : jz_W hm b) (hA : jy_A h 0 r (jA hm)) (hR : jy_R h r hm b) (hmo : ¬ jC hm b 0 0 = 0) (hS : jy_S S0 (jh_I h 7 r 13) hm b) (hv : v < 32) (hp : p ≤ jz_np hm b) (hfr : ∀ x, x ≠ 37 → S x = S0 x) (k : ∀ S' : Nat → Nat → Int32, (∀ x, x ≠ 37 → S' x = S0 x) → Q (some (jv_i (jw_smg hm b v s (jz_np hm b - p) p acc))) (jP h S' (0 + 1)))  : jx_W (jm_Sway_asked, d + 6, 0, 0, false, 0, n0) Q 0 0 4 [some (jv_r 8 0), some (jv_i s), some (jv_i (nI v)), some (jv_i acc), some (jv_i (nI p))] [] (jP h S (0 + 1)) := by
  have hnp5 := hw.2.2.1.2.1.2
  have h8 : S 8 4 = nI (jz_np hm b) := by rw [hfr 8 (by decide)]; exact hS.2.2.2
  refine jr_iload rfl rfl ?_
  refine jr_aload rfl rfl ?_
  refine jr_getI rfl rfl ?_
  rw [show jh_I (jP h S (0 + 1)) 8 0 4 = nI (jz_np hm b) from h8]
  refine jr_icmp_ge rfl (fun c7 => ?_) (fun c7 => ?_)
  · refine jr_iload rfl rfl ?_
    refine jr_iret rfl rfl (Nat.zero_le _) (Nat.zero_le _) ?_
    have hp2 : jz_np hm b - p = 0 := by have := jn_le (show nI (jz_np hm b) ≤ nI p from c7) (by omega) (by omega); omega
    have := k S hfr
    rw [hp2] at this
    exact this
  · have hp1 : p < jz_np hm b := jn_nle (show ¬ nI (jz_np hm b) ≤ nI p from c7) (by omega) (by omega)
    have hn : jz_np hm b - p = (jz_np hm b - (p + 1)) + 1 := by omega
    have h42 : S 42 p = nI (jw_V hm b p) := by rw [hfr 42 (by decide)]; exact hS.2.2.1 p hp1
    have hS' : jy_S S (jh_I h 7 r 13) hm b := jy_S_fr hS (fun x hx => hfr x (by omega))
    refine jr_iload rfl rfl ?_
    refine jr_iload rfl rfl ?_
    refine jr_cs2 (mc' := 0) (ms' := 0) rfl jm_Sway_isIn_n jm_Sway_isIn_f rfl rfl rfl rfl rfl (Nat.zero_le _) (Nat.zero_le _) ?_
    show jx_W (jm_Sway_isIn, _, _, _, _, _, _) _ 0 0 0 [some _, some _] [] _
    refine jr_iload rfl rfl ?_
    refine jr_iload rfl rfl ?_
    refine jr_iushr rfl ?_
    refine jr_ic rfl ?_
    refine jr_iand rfl ?_
    rw [show (s.toUInt32 >>> ((nI p).toUInt32 &&& Int32.toUInt32 31)).toInt32 &&& 1 = if bt s p = true then 1 else 0 from jy_u_bt (by omega)]
    refine jr_if_eq rfl (fun c5SwayisIn => ?_) (fun c5SwayisIn => ?_)
    · refine jr_ic rfl ?_
      refine jr_zret rfl rfl rfl (Nat.zero_le _) (Nat.zero_le _) ?_
      refine jr_if_eq rfl (fun _ => ?_) (fun z => absurd (by decide) z)
      refine jr_iinc4 rfl rfl ?_
      refine jr_goto rfl ?_
      rw [jn_S]
      refine lp_asked S (p + 1) _ hw hA hR hmo hS hv (by omega) hfr (fun S' f' => ?_)
      have := k S' f'
      rw [hn, jw_smg, if_neg (jc_b0 c5SwayisIn)] at this
      exact this
    · refine jr_ic rfl ?_
      refine jr_goto rfl ?_
      refine jr_zret rfl rfl rfl (Nat.zero_le _) (Nat.zero_le _) ?_
      refine jr_if_eq rfl (fun z => absurd z (by decide)) (fun _ => ?_)
      refine jr_iload rfl rfl ?_
      refine jr_aload rfl rfl ?_
      refine jr_getR rfl rfl rfl rfl (Or.inl rfl) ?_
      refine jr_iload rfl rfl ?_
      refine jr_aload rfl rfl ?_
      refine jr_getR rfl rfl rfl rfl (Or.inl rfl) ?_
      refine jr_iload rfl rfl ?_
      refine jr_iald (len := 5) rfl rfl rfl (by omega) ?_
      rw [show jh_I (jP h S (0 + 1)) 42 0 p = nI (jw_V hm b p) from h42]
      refine jr_cv2 (mc' := 0) (ms' := 0) rfl jm_Poll_worthOf_n jm_Poll_worthOf_f rfl rfl rfl rfl rfl rfl rfl (Nat.zero_le _) (Nat.zero_le _) ?_
      show jx_W (jm_Poll_worthOf, _, _, _, _, _, _) _ 0 0 0 [some _, some _, some _] [] _
      refine jr_aload rfl rfl ?_
      refine jr_iload rfl rfl ?_
      refine jr_iload rfl rfl ?_
      refine jr_iload rfl rfl ?_
      refine jr_cv3 (mc' := 0) (ms' := 0) rfl jm_Poll_valueOf_n jm_Poll_valueOf_f rfl rfl rfl rfl rfl rfl rfl (Nat.zero_le _) (Nat.zero_le _) ?_
      refine eP_worth hw hmo hA hR hS'.1 (by omega) (jw_V_eq hw hmo).2.1 (fun S1 f1 => ?_)
      refine jr_iret rfl rfl (Nat.zero_le _) (Nat.zero_le _) ?_
      refine jr_aload rfl rfl ?_
      refine jr_getR rfl rfl rfl rfl (Or.inl rfl) ?_
      refine jr_iload rfl rfl ?_
      refine jr_iload rfl rfl ?_
      refine jr_cv2 (mc' := 0) (ms' := 0) rfl jm_Poll_worthOf_n jm_Poll_worthOf_f rfl rfl rfl rfl rfl rfl rfl (Nat.zero_le _) (Nat.zero_le _) ?_
      show jx_W (jm_Poll_worthOf, _, _, _, _, _, _) _ 0 0 0 [some _, some _, some _] [] _
      refine jr_aload rfl rfl ?_
      refine jr_iload rfl rfl ?_
      refine jr_iload rfl rfl ?_
      refine jr_iload rfl rfl ?_
      refine jr_cv3 (mc' := 0) (ms' := 0) rfl jm_Poll_valueOf_n jm_Poll_valueOf_f rfl rfl rfl rfl rfl rfl rfl (Nat.zero_le _) (Nat.zero_le _) ?_
      have hS1 : jy_S S1 (jh_I h 7 r 13) hm b := jy_S_fr hS' (fun x hx => f1 x (by omega))
      refine eP_worth hw hmo hA hR hS1.1 (by omega) hv (fun S2 f2 => ?_)
      refine jr_iret rfl rfl (Nat.zero_le _) (Nat.zero_le _) ?_
      refine jr_isub rfl ?_
      refine jr_iadd rfl ?_
      refine jr_ist3 rfl rfl ?_
      refine jr_iinc4 rfl rfl ?_
      refine jr_goto rfl ?_
      rw [jn_S]
      refine lp_asked S2 (p + 1) _ hw hA hR hmo hS hv (by omega) (fun x hx => (f2 x hx).trans ((f1 x hx).trans (hfr x hx))) (fun S' f' => ?_)
      have := k S' f'
      rw [hn, jw_smg, if_pos (jc_b1 c5SwayisIn)] at this
      exact this
termination_by jz_np hm b - p
decreasing_by all_goals omega

set_option maxHeartbeats 800000 in
set_option maxRecDepth 100000 in
theorem ev_asked {d : Nat} {h : jx_H} {Q : Option jx_V → jx_H → Prop} {hm : jx_H} {b r v : Nat} {s : Int32} {S0 : Nat → Nat → Int32} (hw : jz_W hm b) (hA : jy_A h 0 r (jA hm)) (hR : jy_R h r hm b) (hmo : ¬ jC hm b 0 0 = 0) (hS : jy_S S0 (jh_I h 7 r 13) hm b) (hv : v < 32) (k : ∀ S' : Nat → Nat → Int32, (∀ x, x ≠ 37 → S' x = S0 x) → Q (some (jv_i (jw_smg hm b v s (jz_np hm b) 0 0))) (jP h S' (0 + 1)))  : jx_Ev jm_Sway_asked (d + 6) 0 0 false 0 [jv_r 8 0, jv_i s, jv_i (nI v)] (jP h S0 (0 + 1)) Q := by
  show jx_W (jm_Sway_asked, d + 6, 0, 0, false, 0, _) Q 0 0 0 [some (jv_r 8 0), some (jv_i s), some (jv_i (nI v)), none, none] [] _
  refine jr_ic rfl ?_
  refine jr_ist3 rfl rfl ?_
  refine jr_ic rfl ?_
  refine jr_ist4 rfl rfl ?_
  exact lp_asked S0 0 0 hw hA hR hmo hS hv (Nat.zero_le _) (fun _ _ => rfl) k

set_option maxHeartbeats 800000 in
set_option maxRecDepth 100000 in
theorem lp_cheap {d n0 : Nat} {Q : Option jx_V → jx_H → Prop} {h hm : jx_H} {b r v : Nat} {S : Nat → Nat → Int32} (s : Nat) (o : Option Nat) (L : Int32) (x5 : Option jx_V) (hw : jz_W hm b) (hA : jy_A h 0 r (jA hm)) (hR : jy_R h r hm b) (hmo : ¬ jC hm b 0 0 = 0) (hS : jy_S S (jh_I h 7 r 13) hm b) (hv : v < 32) (hs : s ≤ 2 ^ jz_np hm b) (hbo : ∀ q, o = some q → q < 2 ^ jz_np hm b) (hL : ∀ q, o = some q → L = jw_sms hm b v q) (k : ∀ S' : Nat → Nat → Int32, jy_S S' (jh_I h 7 r 13) hm b → Q (some (jv_i (jw_ob (jw_cs hm b v (2 ^ jz_np hm b - s) s o)))) (jP h S' (0 + 1))) : jx_W (jm_Sway_cheapestSet, d + 8, 0, 0, false, 0, n0) Q 0 0 6 [some (jv_r 8 0), some (jv_i (nI v)), some (jv_i (jw_ob o)), some (jv_i L), some (jv_i (nI s)), x5] [] (jP h S (0 + 1)) := by
  have hnp5 := hw.2.2.1.2.1.2
  have h2p := jw_2p hnp5
  rcases o with _ | best
  · show jx_W (jm_Sway_cheapestSet, d + 8, 0, 0, false, 0, n0) Q 0 0 6 [some (jv_r 8 0), some (jv_i (nI v)), some (jv_i (-1)), some (jv_i L), some (jv_i (nI s)), x5] [] (jP h S (0 + 1))
    refine jr_iload rfl rfl ?_
    refine jr_ic rfl ?_
    refine jr_aload rfl rfl ?_
    refine jr_getI rfl rfl ?_
    refine jr_ishl rfl ?_
    rw [show jh_I (jP h S (0 + 1)) 8 0 4 = nI (jz_np hm b) from hS.2.2.2, jw_1sh hnp5]
    refine jr_icmp_ge rfl (fun c11 => ?_) (fun c11 => ?_)
    · refine jr_iload rfl rfl ?_
      refine jr_iret rfl rfl (Nat.zero_le _) (Nat.zero_le _) ?_
      have hs2 : 2 ^ jz_np hm b ≤ s := jn_le (show nI (2 ^ jz_np hm b) ≤ nI s from c11) (by omega) (by omega)
      have := k S hS
      rw [show 2 ^ jz_np hm b - s = 0 by omega] at this
      exact this
    · have hs1 : s < 2 ^ jz_np hm b := jn_nle (show ¬ nI (2 ^ jz_np hm b) ≤ nI s from c11) (by omega) (by omega)
      have hn : 2 ^ jz_np hm b - s = (2 ^ jz_np hm b - (s + 1)) + 1 := by omega
      refine jr_aload rfl rfl ?_
      refine jr_iload rfl rfl ?_
      refine jr_iload rfl rfl ?_
      refine jr_cv2 (mc' := 0) (ms' := 0) rfl jm_Sway_turns_n jm_Sway_turns_f rfl rfl rfl rfl rfl rfl rfl (Nat.zero_le _) (Nat.zero_le _) ?_
      refine ev_turns hw hA hR hmo hS hv (fun S1 f1 => ?_)
      refine jr_if_eq rfl (fun c16 => ?_) (fun c16 => ?_)
      · refine jr_iinc4 rfl rfl ?_
        refine jr_goto rfl ?_
        rw [jn_S]
        refine lp_cheap (s + 1) none _ _ hw hA hR hmo (jy_S_fr hS (fun x hx => f1 x (by omega) (by omega))) hv (by omega) (fun q hq => by cases hq) (fun q hq => by cases hq) (fun S' hS' => ?_)
        have := k S' hS'
        rw [hn, jw_cs, if_neg (jc_b0 c16)] at this
        exact this
      · refine jr_aload rfl rfl ?_
        refine jr_iload rfl rfl ?_
        refine jr_iload rfl rfl ?_
        refine jr_cv2 (mc' := 0) (ms' := 0) rfl jm_Sway_asked_n jm_Sway_asked_f rfl rfl rfl rfl rfl rfl rfl (Nat.zero_le _) (Nat.zero_le _) ?_
        refine ev_asked hw hA hR hmo (jy_S_fr hS (fun x hx => f1 x (by omega) (by omega))) hv (fun S2 f2 => ?_)
        refine jr_ist5 rfl rfl ?_
        refine jr_iload rfl rfl ?_
        refine jr_ic rfl ?_
        refine jr_icmp_eq rfl (fun _ => ?_) (fun z => absurd (by decide) z)
        refine jr_iload rfl rfl ?_
        refine jr_ist2 rfl rfl ?_
        refine jr_iload rfl rfl ?_
        refine jr_ist3 rfl rfl ?_
        refine jr_iinc4 rfl rfl ?_
        refine jr_goto rfl ?_
        rw [jn_S]
        refine lp_cheap (s + 1) (some s) _ _ hw hA hR hmo (jy_S_fr hS (fun x hx => (f2 x (by omega)).trans (f1 x (by omega) (by omega)))) hv (by omega) (fun q hq => by cases hq; omega) (fun q hq => by cases hq; rfl) (fun S' hS' => ?_)
        have := k S' hS'
        rw [hn, jw_cs, if_pos (jc_b1 c16)] at this
        exact this
  · have hb32 : best < 32 := by have := hbo best rfl; omega
    have hLq := hL best rfl
    subst hLq
    show jx_W (jm_Sway_cheapestSet, d + 8, 0, 0, false, 0, n0) Q 0 0 6 [some (jv_r 8 0), some (jv_i (nI v)), some (jv_i (nI best)), some (jv_i (jw_sms hm b v best)), some (jv_i (nI s)), x5] [] (jP h S (0 + 1))
    refine jr_iload rfl rfl ?_
    refine jr_ic rfl ?_
    refine jr_aload rfl rfl ?_
    refine jr_getI rfl rfl ?_
    refine jr_ishl rfl ?_
    rw [show jh_I (jP h S (0 + 1)) 8 0 4 = nI (jz_np hm b) from hS.2.2.2, jw_1sh hnp5]
    refine jr_icmp_ge rfl (fun c11 => ?_) (fun c11 => ?_)
    · refine jr_iload rfl rfl ?_
      refine jr_iret rfl rfl (Nat.zero_le _) (Nat.zero_le _) ?_
      have hs2 : 2 ^ jz_np hm b ≤ s := jn_le (show nI (2 ^ jz_np hm b) ≤ nI s from c11) (by omega) (by omega)
      have := k S hS
      rw [show 2 ^ jz_np hm b - s = 0 by omega] at this
      exact this
    · have hs1 : s < 2 ^ jz_np hm b := jn_nle (show ¬ nI (2 ^ jz_np hm b) ≤ nI s from c11) (by omega) (by omega)
      have hn : 2 ^ jz_np hm b - s = (2 ^ jz_np hm b - (s + 1)) + 1 := by omega
      refine jr_aload rfl rfl ?_
      refine jr_iload rfl rfl ?_
      refine jr_iload rfl rfl ?_
      refine jr_cv2 (mc' := 0) (ms' := 0) rfl jm_Sway_turns_n jm_Sway_turns_f rfl rfl rfl rfl rfl rfl rfl (Nat.zero_le _) (Nat.zero_le _) ?_
      refine ev_turns hw hA hR hmo hS hv (fun S1 f1 => ?_)
      refine jr_if_eq rfl (fun c16 => ?_) (fun c16 => ?_)
      · refine jr_iinc4 rfl rfl ?_
        refine jr_goto rfl ?_
        rw [jn_S]
        refine lp_cheap (s + 1) (some best) _ _ hw hA hR hmo (jy_S_fr hS (fun x hx => f1 x (by omega) (by omega))) hv (by omega) hbo (fun q hq => by cases hq; rfl) (fun S' hS' => ?_)
        have := k S' hS'
        rw [hn, jw_cs, if_neg (jc_b0 c16)] at this
        exact this
      · refine jr_aload rfl rfl ?_
        refine jr_iload rfl rfl ?_
        refine jr_iload rfl rfl ?_
        refine jr_cv2 (mc' := 0) (ms' := 0) rfl jm_Sway_asked_n jm_Sway_asked_f rfl rfl rfl rfl rfl rfl rfl (Nat.zero_le _) (Nat.zero_le _) ?_
        refine ev_asked hw hA hR hmo (jy_S_fr hS (fun x hx => f1 x (by omega) (by omega))) hv (fun S2 f2 => ?_)
        refine jr_ist5 rfl rfl ?_
        refine jr_iload rfl rfl ?_
        refine jr_ic rfl ?_
        refine jr_icmp_eq rfl (fun z => absurd z (show ¬ nI best = -1 from fun z => nI_pos (show best < 2 ^ 31 by omega) (by rw [z]; decide))) (fun _ => ?_)
        refine jr_iload rfl rfl ?_
        refine jr_iload rfl rfl ?_
        refine jr_icmp_ge rfl (fun c27 => ?_) (fun c27 => ?_)
        · refine jr_iinc4 rfl rfl ?_
          refine jr_goto rfl ?_
          rw [jn_S]
          refine lp_cheap (s + 1) (some best) _ _ hw hA hR hmo (jy_S_fr hS (fun x hx => (f2 x (by omega)).trans (f1 x (by omega) (by omega)))) hv (by omega) hbo (fun q hq => by cases hq; rfl) (fun S' hS' => ?_)
          have := k S' hS'
          rw [hn, jw_cs, if_pos (jc_b1 c16), if_pos (show jw_sms hm b v best ≤ jw_sms hm b v s from c27)] at this
          exact this
        · refine jr_iload rfl rfl ?_
          refine jr_ist2 rfl rfl ?_
          refine jr_iload rfl rfl ?_
          refine jr_ist3 rfl rfl ?_
          refine jr_iinc4 rfl rfl ?_
          refine jr_goto rfl ?_
          rw [jn_S]
          refine lp_cheap (s + 1) (some s) _ _ hw hA hR hmo (jy_S_fr hS (fun x hx => (f2 x (by omega)).trans (f1 x (by omega) (by omega)))) hv (by omega) (fun q hq => by cases hq; omega) (fun q hq => by cases hq; rfl) (fun S' hS' => ?_)
          have := k S' hS'
          rw [hn, jw_cs, if_pos (jc_b1 c16), if_neg (show ¬ jw_sms hm b v best ≤ jw_sms hm b v s from c27)] at this
          exact this
termination_by 2 ^ jz_np hm b - s
decreasing_by all_goals omega
set_option maxHeartbeats 800000 in
set_option maxRecDepth 100000 in
theorem ev_cheap {d : Nat} {h : jx_H} {Q : Option jx_V → jx_H → Prop} {hm : jx_H} {b r v : Nat} {S : Nat → Nat → Int32} (hw : jz_W hm b) (hA : jy_A h 0 r (jA hm)) (hR : jy_R h r hm b) (hmo : ¬ jC hm b 0 0 = 0) (hS : jy_S S (jh_I h 7 r 13) hm b) (hv : v < 32) (k : ∀ S' : Nat → Nat → Int32, jy_S S' (jh_I h 7 r 13) hm b → Q (some (jv_i (jw_ob (jw_cs hm b v (2 ^ jz_np hm b) 0 none)))) (jP h S' (0 + 1)))  : jx_Ev jm_Sway_cheapestSet (d + 8) 0 0 false 0 [jv_r 8 0, jv_i (nI v)] (jP h S (0 + 1)) Q := by
  show jx_W (jm_Sway_cheapestSet, d + 8, 0, 0, false, 0, _) Q 0 0 0 [some (jv_r 8 0), some (jv_i (nI v)), none, none, none, none] [] _
  refine jr_ic rfl ?_
  refine jr_ist2 rfl rfl ?_
  refine jr_ic rfl ?_
  refine jr_ist3 rfl rfl ?_
  refine jr_ic rfl ?_
  refine jr_ist4 rfl rfl ?_
  exact lp_cheap 0 none 0 _ hw hA hR hmo hS hv (Nat.zero_le _) (fun q hq => by cases hq) (fun q hq => by cases hq) k

set_option maxHeartbeats 800000 in
set_option maxRecDepth 100000 in
theorem lp_MD_bsum {d n0 : Nat} {Q : Option jx_V → jx_H → Prop} {hm : jx_H} {b v s : Nat} {S : Nat → Nat → Int32} {w z L : Int32} (p : Nat) (acc : Int32) (hw : jz_W hm b) (hS : jz_S hm S) (hmo : ¬ jC hm b 0 0 = 0) (hv : v < 32) (h105 : ∀ p, p < jz_np hm b → S 105 p = jw_as hm b v p) (hp : p ≤ jz_np hm b) (k : jx_W (jm_MD_bribe, d + 8, 0, 0, false, 1, n0) Q 0 0 49 [some (jv_r 11 0), some (jv_i (nI v)), some (jv_i w), some (jv_i z), some (jv_i L), some (jv_i (nI s)), some (jv_i (jw_smg hm b v (nI s) (jz_np hm b - p) p acc)), some (jv_i (nI (jz_np hm b)))] [] (jS hm S))  : jx_W (jm_MD_bribe, d + 8, 0, 0, false, 1, n0) Q 0 0 27 [some (jv_r 11 0), some (jv_i (nI v)), some (jv_i w), some (jv_i z), some (jv_i L), some (jv_i (nI s)), some (jv_i acc), some (jv_i (nI p))] [] (jS hm S) := by
  have hb2 := hw.2.1
  have hnp := hw.2.2.1.2.1
  have hnp5 := hnp.2
  refine jr_iload rfl rfl ?_
  refine jr_aload rfl rfl ?_
  refine jr_cv0 (mc' := 0) (ms' := 0) rfl jm_MD_personMany_n jm_MD_personMany_f rfl rfl rfl rfl rfl rfl rfl (Nat.zero_le _) (Nat.zero_le _) ?_
  show jx_W (jm_MD_personMany, _, _, _, _, _, _) _ 0 0 0 [some _] [] _
  refine jr_aload rfl rfl ?_
  refine jr_getR rfl rfl rfl rfl (Or.inl rfl) ?_
  refine jr_aload rfl rfl ?_
  refine jr_getI rfl rfl ?_
  refine jr_iald (len := 2) rfl rfl (jz_bank hw hS) (by omega) ?_
  refine jr_iret rfl rfl (Nat.zero_le _) (Nat.zero_le _) ?_
  rw [show jh_I (jS hm S) 67 0 b = nI (jz_np hm b) from hnp.1]
  refine jr_icmp_ge rfl (fun c30 => ?_) (fun c30 => ?_)
  · have hp2 : p = jz_np hm b := by have := jn_le (show nI (jz_np hm b) ≤ nI p from c30) (by omega) (by omega); omega
    subst hp2
    rw [Nat.sub_self] at k
    exact k
  · have hp1 : p < jz_np hm b := jn_nle (show ¬ nI (jz_np hm b) ≤ nI p from c30) (by omega) (by omega)
    have hn : jz_np hm b - p = (jz_np hm b - (p + 1)) + 1 := by omega
    refine jr_iload rfl rfl ?_
    refine jr_iload rfl rfl ?_
    refine jr_iload rfl rfl ?_
    refine jr_ishr rfl ?_
    refine jr_ic rfl ?_
    refine jr_iand rfl ?_
    refine jr_ic rfl ?_
    rw [jy_s_bt (m := nI s) (l := p) (by omega)]
    refine jr_icmp_ne rfl (fun c38 => ?_) (fun c38 => ?_)
    · refine jr_ic rfl ?_
      refine jr_iadd rfl ?_
      refine jr_ist6 rfl rfl ?_
      refine jr_iinc7 rfl rfl ?_
      refine jr_goto rfl ?_
      rw [jn_S]
      refine lp_MD_bsum (p + 1) _ hw hS hmo hv h105 (by omega) ?_
      rw [hn, jw_smg, if_neg (fun z => c38 (by rw [if_pos z]))] at k
      rw [Int32.add_zero]
      exact k
    · refine jr_aload rfl rfl ?_
      refine jr_getR rfl rfl rfl rfl (Or.inl rfl) ?_
      refine jr_iload rfl rfl ?_
      refine jr_iald (len := 5) rfl rfl rfl (by omega) ?_
      rw [show jh_I (jS hm S) 105 0 p = jw_as hm b v p from h105 p hp1]
      refine jr_goto rfl ?_
      refine jr_iadd rfl ?_
      refine jr_ist6 rfl rfl ?_
      refine jr_iinc7 rfl rfl ?_
      refine jr_goto rfl ?_
      rw [jn_S]
      refine lp_MD_bsum (p + 1) _ hw hS hmo hv h105 (by omega) ?_
      rw [hn, jw_smg, if_pos (jc_b1 (by rw [c38]; decide))] at k
      exact k
termination_by jz_np hm b - p
decreasing_by all_goals omega

set_option maxHeartbeats 800000 in
set_option maxRecDepth 100000 in
theorem lp_MD_bribe {d n0 : Nat} {Q : Option jx_V → jx_H → Prop} {hm : jx_H} {b v : Nat} {S : Nat → Nat → Int32} {w : Int32} (s : Nat) (o : Option Nat) (L : Int32) (x6 x7 : Option jx_V) (hw : jz_W hm b) (hS : jz_S hm S) (hmo : ¬ jC hm b 0 0 = 0) (hv : v < 32) (hM : ∀ j, j < 32 → S 100 j = jw_mayb hm b j) (h104 : ∀ p, p < jz_np hm b → S 104 p = nI (jw_V hm b p)) (h105 : ∀ p, p < jz_np hm b → S 105 p = jw_as hm b v p) (hs : s ≤ 2 ^ jz_np hm b) (hbo : ∀ q, o = some q → q < 2 ^ jz_np hm b) (hL : ∀ q, o = some q → L = jw_sms hm b v q) (k : ∀ (S' : Nat → Nat → Int32) (s' : Nat) (L' : Int32) (y6 y7 : Option jx_V), jz_S hm S' → (∀ q, jw_cs hm b v (2 ^ jz_np hm b - s) s o = some q → L' = jw_sms hm b v q) → jx_W (jm_MD_bribe, d + 8, 0, 0, false, 1, n0) Q 0 0 66 [some (jv_r 11 0), some (jv_i (nI v)), some (jv_i w), some (jv_i (jw_ob (jw_cs hm b v (2 ^ jz_np hm b - s) s o))), some (jv_i L'), some (jv_i (nI s')), y6, y7] [] (jS hm S')) : jx_W (jm_MD_bribe, d + 8, 0, 0, false, 1, n0) Q 0 0 17 [some (jv_r 11 0), some (jv_i (nI v)), some (jv_i w), some (jv_i (jw_ob o)), some (jv_i L), some (jv_i (nI s)), x6, x7] [] (jS hm S) := by
  have hnp5 := hw.2.2.1.2.1.2
  have hb2 := hw.2.1
  have h2p := jw_2p hnp5
  rcases o with _ | best
  · show jx_W (jm_MD_bribe, d + 8, 0, 0, false, 1, n0) Q 0 0 17 [some (jv_r 11 0), some (jv_i (nI v)), some (jv_i w), some (jv_i (-1)), some (jv_i L), some (jv_i (nI s)), x6, x7] [] (jS hm S)
    refine jr_iload rfl rfl ?_
    refine jr_ic rfl ?_
    refine jr_aload rfl rfl ?_
    refine jr_cv0 (mc' := 0) (ms' := 0) rfl jm_MD_personMany_n jm_MD_personMany_f rfl rfl rfl rfl rfl rfl rfl (Nat.zero_le _) (Nat.zero_le _) ?_
    show jx_W (jm_MD_personMany, _, _, _, _, _, _) _ 0 0 0 [some _] [] _
    refine jr_aload rfl rfl ?_
    refine jr_getR rfl rfl rfl rfl (Or.inl rfl) ?_
    refine jr_aload rfl rfl ?_
    refine jr_getI rfl rfl ?_
    refine jr_iald (len := 2) rfl rfl (jz_bank hw hS) (by omega) ?_
    refine jr_iret rfl rfl (Nat.zero_le _) (Nat.zero_le _) ?_
    refine jr_ishl rfl ?_
    rw [show jh_I (jS hm S) 67 0 b = nI (jz_np hm b) from hw.2.2.1.2.1.1, jw_1sh hnp5]
    refine jr_icmp_ge rfl (fun c22 => ?_) (fun c22 => ?_)
    · have hs2 : 2 ^ jz_np hm b ≤ s := jn_le (show nI (2 ^ jz_np hm b) ≤ nI s from c22) (by omega) (by omega)
      rw [show 2 ^ jz_np hm b - s = 0 by omega] at k
      exact k S s _ x6 x7 hS (fun q hq => by cases hq)
    · have hs1 : s < 2 ^ jz_np hm b := jn_nle (show ¬ nI (2 ^ jz_np hm b) ≤ nI s from c22) (by omega) (by omega)
      have hn : 2 ^ jz_np hm b - s = (2 ^ jz_np hm b - (s + 1)) + 1 := by omega
      refine jr_ic rfl ?_
      refine jr_ist6 rfl rfl ?_
      refine jr_ic rfl ?_
      refine jr_ist7 rfl rfl ?_
      refine lp_MD_bsum 0 0 hw hS hmo hv h105 (Nat.zero_le _) ?_
      refine jr_iload rfl rfl ?_
      refine jr_if_lt rfl (fun _ => ?_) (fun z => absurd (by decide) z)
      refine jr_aload rfl rfl ?_
      refine jr_iload rfl rfl ?_
      refine jr_iload rfl rfl ?_
      refine jr_cv2 (mc' := 0) (ms' := 0) rfl jm_MD_isTurnedBy_n jm_MD_isTurnedBy_f rfl rfl rfl rfl rfl rfl rfl (Nat.zero_le _) (Nat.zero_le _) ?_
      refine eS_isT hw hS hmo hv hM h104 (fun S1 hS1 f1 => ?_)
      refine jr_if_ne rfl (fun c58 => ?_) (fun c58 => ?_)
      · refine jr_iload rfl rfl ?_
        refine jr_ist3 rfl rfl ?_
        refine jr_iload rfl rfl ?_
        refine jr_ist4 rfl rfl ?_
        refine jr_iinc5 rfl rfl ?_
        refine jr_goto rfl ?_
        rw [jn_S]
        refine lp_MD_bribe (s + 1) (some s) _ _ _ hw hS1 hmo hv (fun j hj => by rw [f1 100 (by decide) (by decide)]; exact hM j hj) (fun p hp => by rw [f1 104 (by decide) (by decide)]; exact h104 p hp) (fun p hp => by rw [f1 105 (by decide) (by decide)]; exact h105 p hp) (by omega) (fun q hq => by cases hq; omega) (fun q hq => by cases hq; rfl) (fun S' s' L' y6 y7 hS' hL' => ?_)
        rw [hn, jw_cs, if_pos (jc_b1 c58)] at k
        exact k S' s' L' y6 y7 hS' hL'
      · refine jr_goto rfl ?_
        refine jr_iinc5 rfl rfl ?_
        refine jr_goto rfl ?_
        rw [jn_S]
        refine lp_MD_bribe (s + 1) none _ _ _ hw hS1 hmo hv (fun j hj => by rw [f1 100 (by decide) (by decide)]; exact hM j hj) (fun p hp => by rw [f1 104 (by decide) (by decide)]; exact h104 p hp) (fun p hp => by rw [f1 105 (by decide) (by decide)]; exact h105 p hp) (by omega) (fun q hq => by cases hq) (fun q hq => by cases hq) (fun S' s' L' y6 y7 hS' hL' => ?_)
        rw [hn, jw_cs, if_neg (jc_b0 c58)] at k
        exact k S' s' L' y6 y7 hS' hL'
  · have hb32 : best < 32 := by have := hbo best rfl; omega
    have hLq := hL best rfl
    subst hLq
    show jx_W (jm_MD_bribe, d + 8, 0, 0, false, 1, n0) Q 0 0 17 [some (jv_r 11 0), some (jv_i (nI v)), some (jv_i w), some (jv_i (nI best)), some (jv_i (jw_sms hm b v best)), some (jv_i (nI s)), x6, x7] [] (jS hm S)
    refine jr_iload rfl rfl ?_
    refine jr_ic rfl ?_
    refine jr_aload rfl rfl ?_
    refine jr_cv0 (mc' := 0) (ms' := 0) rfl jm_MD_personMany_n jm_MD_personMany_f rfl rfl rfl rfl rfl rfl rfl (Nat.zero_le _) (Nat.zero_le _) ?_
    show jx_W (jm_MD_personMany, _, _, _, _, _, _) _ 0 0 0 [some _] [] _
    refine jr_aload rfl rfl ?_
    refine jr_getR rfl rfl rfl rfl (Or.inl rfl) ?_
    refine jr_aload rfl rfl ?_
    refine jr_getI rfl rfl ?_
    refine jr_iald (len := 2) rfl rfl (jz_bank hw hS) (by omega) ?_
    refine jr_iret rfl rfl (Nat.zero_le _) (Nat.zero_le _) ?_
    refine jr_ishl rfl ?_
    rw [show jh_I (jS hm S) 67 0 b = nI (jz_np hm b) from hw.2.2.1.2.1.1, jw_1sh hnp5]
    refine jr_icmp_ge rfl (fun c22 => ?_) (fun c22 => ?_)
    · have hs2 : 2 ^ jz_np hm b ≤ s := jn_le (show nI (2 ^ jz_np hm b) ≤ nI s from c22) (by omega) (by omega)
      rw [show 2 ^ jz_np hm b - s = 0 by omega] at k
      exact k S s _ x6 x7 hS (fun q hq => by cases hq; rfl)
    · have hs1 : s < 2 ^ jz_np hm b := jn_nle (show ¬ nI (2 ^ jz_np hm b) ≤ nI s from c22) (by omega) (by omega)
      have hn : 2 ^ jz_np hm b - s = (2 ^ jz_np hm b - (s + 1)) + 1 := by omega
      refine jr_ic rfl ?_
      refine jr_ist6 rfl rfl ?_
      refine jr_ic rfl ?_
      refine jr_ist7 rfl rfl ?_
      refine lp_MD_bsum 0 0 hw hS hmo hv h105 (Nat.zero_le _) ?_
      refine jr_iload rfl rfl ?_
      refine jr_if_lt rfl (fun z => absurd z (nI_pos (by omega))) (fun _ => ?_)
      refine jr_iload rfl rfl ?_
      refine jr_iload rfl rfl ?_
      refine jr_icmp_ge rfl (fun c53 => ?_) (fun c53 => ?_)
      · refine jr_iinc5 rfl rfl ?_
        refine jr_goto rfl ?_
        rw [jn_S]
        refine lp_MD_bribe (s + 1) (some best) _ _ _ hw hS hmo hv hM h104 h105 (by omega) hbo (fun q hq => by cases hq; rfl) (fun S' s' L' y6 y7 hS' hL' => ?_)
        rw [hn, jw_cs, if_pos (show jw_sms hm b v best ≤ jw_sms hm b v s from c53), ite_self] at k
        exact k S' s' L' y6 y7 hS' hL'
      · refine jr_aload rfl rfl ?_
        refine jr_iload rfl rfl ?_
        refine jr_iload rfl rfl ?_
        refine jr_cv2 (mc' := 0) (ms' := 0) rfl jm_MD_isTurnedBy_n jm_MD_isTurnedBy_f rfl rfl rfl rfl rfl rfl rfl (Nat.zero_le _) (Nat.zero_le _) ?_
        refine eS_isT hw hS hmo hv hM h104 (fun S1 hS1 f1 => ?_)
        refine jr_if_ne rfl (fun c58 => ?_) (fun c58 => ?_)
        · refine jr_iload rfl rfl ?_
          refine jr_ist3 rfl rfl ?_
          refine jr_iload rfl rfl ?_
          refine jr_ist4 rfl rfl ?_
          refine jr_iinc5 rfl rfl ?_
          refine jr_goto rfl ?_
          rw [jn_S]
          refine lp_MD_bribe (s + 1) (some s) _ _ _ hw hS1 hmo hv (fun j hj => by rw [f1 100 (by decide) (by decide)]; exact hM j hj) (fun p hp => by rw [f1 104 (by decide) (by decide)]; exact h104 p hp) (fun p hp => by rw [f1 105 (by decide) (by decide)]; exact h105 p hp) (by omega) (fun q hq => by cases hq; omega) (fun q hq => by cases hq; rfl) (fun S' s' L' y6 y7 hS' hL' => ?_)
          rw [hn, jw_cs, if_pos (jc_b1 c58), if_neg (show ¬ jw_sms hm b v best ≤ jw_sms hm b v s from c53)] at k
          exact k S' s' L' y6 y7 hS' hL'
        · refine jr_goto rfl ?_
          refine jr_iinc5 rfl rfl ?_
          refine jr_goto rfl ?_
          rw [jn_S]
          refine lp_MD_bribe (s + 1) (some best) _ _ _ hw hS1 hmo hv (fun j hj => by rw [f1 100 (by decide) (by decide)]; exact hM j hj) (fun p hp => by rw [f1 104 (by decide) (by decide)]; exact h104 p hp) (fun p hp => by rw [f1 105 (by decide) (by decide)]; exact h105 p hp) (by omega) hbo (fun q hq => by cases hq; rfl) (fun S' s' L' y6 y7 hS' hL' => ?_)
          rw [hn, jw_cs, if_neg (jc_b0 c58)] at k
          exact k S' s' L' y6 y7 hS' hL'
termination_by 2 ^ jz_np hm b - s
decreasing_by all_goals omega
set_option maxHeartbeats 800000 in
set_option maxRecDepth 100000 in
theorem pd_bribe {d : Nat} {hc hm : jx_H} {x y : Int32} (hRel : jz_Rel hc hm) : jx_Ev jm_JV_bribe (d + 40) 0 0 false 0 [jv_r 10 0, jv_i x, jv_i y] hc (fun r hc' => jx_Ev jm_MD_bribe (d + 40) 0 0 false 1 [jv_r 11 0, jv_i x, jv_i y] hm (fun r' hm' => r = r' ∧ jz_Rel hc' hm')) := by
  have hRel0 := hRel
  obtain ⟨b, r, ⟨hw, hG, hr2, hto, hsp, hR, hA, hL⟩, hTa, hFa, hLy, hTi, hLe, hBo, hAc, hWo⟩ := hRel
  have hb2 := hw.2.1
  have hnm := hw.2.2.1.1
  have hnm5 := hnm.2
  have km1 : (jh_I hc 7 r 0).toInt = (jz_nm hm b : Int) := by rw [hR.1]; exact (congrArg Int32.toInt hnm.1).trans (nI_toInt (by omega))
  have km2 : (jh_I hm 66 0 b).toInt = (jz_nm hm b : Int) := (congrArg Int32.toInt hnm.1).trans (nI_toInt (by omega))
  have km3 : (jh_I hm 66 0 b - 1).toInt = (jz_nm hm b : Int) - 1 := by rw [Int32.toInt_sub, km2, show (1 : Int32).toInt = 1 from rfl]; exact jn_sm (by omega) (by omega)
  have hnp0 := hw.2.2.1.2.1
  have h2p := jw_2p hnp0.2
  rcases jz_3 (A := jC hm b 0 0 = 0) x 0 31 (by decide) with hmo | ⟨hmo, i, rfl, -, hi, hi2⟩ | ⟨hmo, hi⟩
  · have hn0 : (jz_nm hm b : Int) = 0 := by rw [← km2]; exact congrArg Int32.toInt hmo
    show jx_W (jm_JV_bribe, d + 40, 0, 0, false, 0, _) _ 0 0 0 [some (jv_r 10 0), some (jv_i x), some (jv_i y), none] [] _
    refine jr_iload rfl rfl ?_
    refine jr_if_lt rfl (fun c1 => ?_) (fun c1 => ?_)
    · refine jr_ic rfl ?_
      refine jr_iret rfl rfl (Nat.zero_le _) (Nat.zero_le _) ?_
      show jx_W (jm_MD_bribe, d + 40, 0, 0, false, 1, _) _ 0 0 0 [some _, some _, some _, none, none, none, none, none] [] _
      refine jr_iload rfl rfl ?_
      refine jr_ic rfl ?_
      refine jr_ic rfl ?_
      refine jr_cs3 (mc' := 0) (ms' := 0) rfl jm_MD_isIn_n jm_MD_isIn_f rfl rfl rfl rfl rfl (Nat.zero_le _) (Nat.zero_le _) ?_
      show jx_W (jm_MD_isIn, _, _, _, _, _, _) _ 0 0 0 [some _, some _, some _] [] _
      refine jr_iload rfl rfl ?_
      refine jr_iload rfl rfl ?_
      refine jr_icmp_lt rfl (fun m2MDisIn => ?_) (fun m2MDisIn => ?_)
      · refine jr_ic rfl ?_
        refine jr_zret rfl rfl rfl (Nat.zero_le _) (Nat.zero_le _) ?_
        refine jr_if_eq rfl (fun _ => ?_) (fun z => absurd (by decide) z)
        refine jr_ic rfl ?_
        refine jr_iret rfl rfl (Nat.zero_le _) (Nat.zero_le _) ?_
        first
          | exact ⟨rfl, hRel0⟩
          | (exfalso; omega)
          | (exfalso; simp (disch := omega) only [Int32.lt_iff_toInt_lt, Int32.le_iff_toInt_le, ← Int32.toInt_inj, Int32.reduceToInt, nI_toInt] at c1 m2MDisIn; done)
          | (exfalso; simp (disch := omega) only [Int32.lt_iff_toInt_lt, Int32.le_iff_toInt_le, ← Int32.toInt_inj, Int32.reduceToInt, nI_toInt] at c1 m2MDisIn; omega)
      · refine jr_iload rfl rfl ?_
        refine jr_iload rfl rfl ?_
        refine jr_icmp_gt rfl (fun m5MDisIn => ?_) (fun m5MDisIn => ?_)
        · refine jr_ic rfl ?_
          refine jr_zret rfl rfl rfl (Nat.zero_le _) (Nat.zero_le _) ?_
          refine jr_if_eq rfl (fun _ => ?_) (fun z => absurd (by decide) z)
          refine jr_ic rfl ?_
          refine jr_iret rfl rfl (Nat.zero_le _) (Nat.zero_le _) ?_
          first
            | exact ⟨rfl, hRel0⟩
            | (exfalso; omega)
            | (exfalso; simp (disch := omega) only [Int32.lt_iff_toInt_lt, Int32.le_iff_toInt_le, ← Int32.toInt_inj, Int32.reduceToInt, nI_toInt] at c1 m2MDisIn m5MDisIn; done)
            | (exfalso; simp (disch := omega) only [Int32.lt_iff_toInt_lt, Int32.le_iff_toInt_le, ← Int32.toInt_inj, Int32.reduceToInt, nI_toInt] at c1 m2MDisIn m5MDisIn; omega)
        · refine jr_ic rfl ?_
          refine jr_goto rfl ?_
          refine jr_zret rfl rfl rfl (Nat.zero_le _) (Nat.zero_le _) ?_
          refine jr_if_eq rfl (fun z => absurd z (by decide)) (fun _ => ?_)
          refine jr_aload rfl rfl ?_
          refine jr_iload rfl rfl ?_
          refine jr_cv1 (mc' := 0) (ms' := 0) rfl jm_MD_canTurnTo_n jm_MD_canTurnTo_f rfl rfl rfl rfl rfl rfl rfl (Nat.zero_le _) (Nat.zero_le _) ?_
          show jx_W (jm_MD_canTurnTo, _, _, _, _, _, _) _ 0 0 0 [some _, some _, none] [] _
          refine jr_aload rfl rfl ?_
          refine jr_cv0 (mc' := 0) (ms' := 0) rfl jm_MD_hasMonths_n jm_MD_hasMonths_f rfl rfl rfl rfl rfl rfl rfl (Nat.zero_le _) (Nat.zero_le _) ?_
          show jx_W (jm_MD_hasMonths, _, _, _, _, _, _) _ 0 0 0 [some _] [] _
          refine jr_aload rfl rfl ?_
          refine jr_getR rfl rfl rfl rfl (Or.inl rfl) ?_
          refine jr_aload rfl rfl ?_
          refine jr_getI rfl rfl ?_
          refine jr_iald (len := 2) rfl rfl hw.1 (by omega) ?_
          refine jr_if_le rfl (fun m5MDhasMonths => ?_) (fun m5MDhasMonths => ?_)
          · refine jr_ic rfl ?_
            refine jr_zret rfl rfl rfl (Nat.zero_le _) (Nat.zero_le _) ?_
            refine jr_if_eq rfl (fun _ => ?_) (fun z => absurd (by decide) z)
            refine jr_ic rfl ?_
            refine jr_zret rfl rfl rfl (Nat.zero_le _) (Nat.zero_le _) ?_
            refine jr_if_ne rfl (fun z => absurd (by decide) z) (fun _ => ?_)
            refine jr_ic rfl ?_
            refine jr_iret rfl rfl (Nat.zero_le _) (Nat.zero_le _) ?_
            first
              | exact ⟨rfl, hRel0⟩
              | (exfalso; omega)
              | (exfalso; simp (disch := omega) only [Int32.lt_iff_toInt_lt, Int32.le_iff_toInt_le, ← Int32.toInt_inj, Int32.reduceToInt, nI_toInt] at c1 m2MDisIn m5MDisIn m5MDhasMonths; done)
              | (exfalso; simp (disch := omega) only [Int32.lt_iff_toInt_lt, Int32.le_iff_toInt_le, ← Int32.toInt_inj, Int32.reduceToInt, nI_toInt] at c1 m2MDisIn m5MDisIn m5MDhasMonths; omega)
          · refine jr_ic rfl ?_
            refine jr_goto rfl ?_
            refine jr_zret rfl rfl rfl (Nat.zero_le _) (Nat.zero_le _) ?_
            refine jr_if_eq rfl (fun z => absurd z (by decide)) (fun _ => ?_)
            refine jr_iload rfl rfl ?_
            refine jr_ic rfl ?_
            refine jr_ic rfl ?_
            refine jr_cs3 (mc' := 0) (ms' := 0) rfl jm_MD_isIn_n jm_MD_isIn_f rfl rfl rfl rfl rfl (Nat.zero_le _) (Nat.zero_le _) ?_
            show jx_W (jm_MD_isIn, _, _, _, _, _, _) _ 0 0 0 [some _, some _, some _] [] _
            refine jr_iload rfl rfl ?_
            refine jr_iload rfl rfl ?_
            refine jr_icmp_lt rfl (fun m2MDisIn_2 => ?_) (fun m2MDisIn_2 => ?_)
            · refine jr_ic rfl ?_
              refine jr_zret rfl rfl rfl (Nat.zero_le _) (Nat.zero_le _) ?_
              refine jr_if_ne rfl (fun z => absurd (by decide) z) (fun _ => ?_)
              refine jr_ic rfl ?_
              refine jr_zret rfl rfl rfl (Nat.zero_le _) (Nat.zero_le _) ?_
              refine jr_if_ne rfl (fun z => absurd (by decide) z) (fun _ => ?_)
              refine jr_ic rfl ?_
              refine jr_iret rfl rfl (Nat.zero_le _) (Nat.zero_le _) ?_
              first
                | exact ⟨rfl, hRel0⟩
                | (exfalso; omega)
                | (exfalso; simp (disch := omega) only [Int32.lt_iff_toInt_lt, Int32.le_iff_toInt_le, ← Int32.toInt_inj, Int32.reduceToInt, nI_toInt] at c1 m2MDisIn m5MDisIn m5MDhasMonths m2MDisIn_2; done)
                | (exfalso; simp (disch := omega) only [Int32.lt_iff_toInt_lt, Int32.le_iff_toInt_le, ← Int32.toInt_inj, Int32.reduceToInt, nI_toInt] at c1 m2MDisIn m5MDisIn m5MDhasMonths m2MDisIn_2; omega)
            · refine jr_iload rfl rfl ?_
              refine jr_iload rfl rfl ?_
              refine jr_icmp_gt rfl (fun m5MDisIn_2 => ?_) (fun m5MDisIn_2 => ?_)
              · refine jr_ic rfl ?_
                refine jr_zret rfl rfl rfl (Nat.zero_le _) (Nat.zero_le _) ?_
                refine jr_if_ne rfl (fun z => absurd (by decide) z) (fun _ => ?_)
                refine jr_ic rfl ?_
                refine jr_zret rfl rfl rfl (Nat.zero_le _) (Nat.zero_le _) ?_
                refine jr_if_ne rfl (fun z => absurd (by decide) z) (fun _ => ?_)
                refine jr_ic rfl ?_
                refine jr_iret rfl rfl (Nat.zero_le _) (Nat.zero_le _) ?_
                first
                  | exact ⟨rfl, hRel0⟩
                  | (exfalso; omega)
                  | (exfalso; simp (disch := omega) only [Int32.lt_iff_toInt_lt, Int32.le_iff_toInt_le, ← Int32.toInt_inj, Int32.reduceToInt, nI_toInt] at c1 m2MDisIn m5MDisIn m5MDhasMonths m2MDisIn_2 m5MDisIn_2; done)
                  | (exfalso; simp (disch := omega) only [Int32.lt_iff_toInt_lt, Int32.le_iff_toInt_le, ← Int32.toInt_inj, Int32.reduceToInt, nI_toInt] at c1 m2MDisIn m5MDisIn m5MDhasMonths m2MDisIn_2 m5MDisIn_2; omega)
              · refine jr_ic rfl ?_
                refine jr_goto rfl ?_
                refine jr_zret rfl rfl rfl (Nat.zero_le _) (Nat.zero_le _) ?_
                refine jr_if_ne rfl (fun _ => ?_) (fun z => absurd z (by decide))
                refine jr_aload rfl rfl ?_
                refine jr_cv0 (mc' := 0) (ms' := 0) rfl jm_MD_layVotes_n jm_MD_layVotes_f rfl rfl rfl rfl rfl rfl rfl (Nat.zero_le _) (Nat.zero_le _) ?_
                first
                  | (exfalso; omega)
                  | (exfalso; simp (disch := omega) only [Int32.lt_iff_toInt_lt, Int32.le_iff_toInt_le, ← Int32.toInt_inj, Int32.reduceToInt, nI_toInt] at c1 m2MDisIn m5MDisIn m5MDhasMonths m2MDisIn_2 m5MDisIn_2; done)
                  | (exfalso; simp (disch := omega) only [Int32.lt_iff_toInt_lt, Int32.le_iff_toInt_le, ← Int32.toInt_inj, Int32.reduceToInt, nI_toInt] at c1 m2MDisIn m5MDisIn m5MDhasMonths m2MDisIn_2 m5MDisIn_2; omega)
    · refine jr_iload rfl rfl ?_
      refine jr_ic rfl ?_
      refine jr_icmp_gt rfl (fun c4 => ?_) (fun c4 => ?_)
      · refine jr_ic rfl ?_
        refine jr_iret rfl rfl (Nat.zero_le _) (Nat.zero_le _) ?_
        show jx_W (jm_MD_bribe, d + 40, 0, 0, false, 1, _) _ 0 0 0 [some _, some _, some _, none, none, none, none, none] [] _
        refine jr_iload rfl rfl ?_
        refine jr_ic rfl ?_
        refine jr_ic rfl ?_
        refine jr_cs3 (mc' := 0) (ms' := 0) rfl jm_MD_isIn_n jm_MD_isIn_f rfl rfl rfl rfl rfl (Nat.zero_le _) (Nat.zero_le _) ?_
        show jx_W (jm_MD_isIn, _, _, _, _, _, _) _ 0 0 0 [some _, some _, some _] [] _
        refine jr_iload rfl rfl ?_
        refine jr_iload rfl rfl ?_
        refine jr_icmp_lt rfl (fun m2MDisIn => ?_) (fun m2MDisIn => ?_)
        · refine jr_ic rfl ?_
          refine jr_zret rfl rfl rfl (Nat.zero_le _) (Nat.zero_le _) ?_
          refine jr_if_eq rfl (fun _ => ?_) (fun z => absurd (by decide) z)
          refine jr_ic rfl ?_
          refine jr_iret rfl rfl (Nat.zero_le _) (Nat.zero_le _) ?_
          first
            | exact ⟨rfl, hRel0⟩
            | (exfalso; omega)
            | (exfalso; simp (disch := omega) only [Int32.lt_iff_toInt_lt, Int32.le_iff_toInt_le, ← Int32.toInt_inj, Int32.reduceToInt, nI_toInt] at c1 c4 m2MDisIn; done)
            | (exfalso; simp (disch := omega) only [Int32.lt_iff_toInt_lt, Int32.le_iff_toInt_le, ← Int32.toInt_inj, Int32.reduceToInt, nI_toInt] at c1 c4 m2MDisIn; omega)
        · refine jr_iload rfl rfl ?_
          refine jr_iload rfl rfl ?_
          refine jr_icmp_gt rfl (fun m5MDisIn => ?_) (fun m5MDisIn => ?_)
          · refine jr_ic rfl ?_
            refine jr_zret rfl rfl rfl (Nat.zero_le _) (Nat.zero_le _) ?_
            refine jr_if_eq rfl (fun _ => ?_) (fun z => absurd (by decide) z)
            refine jr_ic rfl ?_
            refine jr_iret rfl rfl (Nat.zero_le _) (Nat.zero_le _) ?_
            first
              | exact ⟨rfl, hRel0⟩
              | (exfalso; omega)
              | (exfalso; simp (disch := omega) only [Int32.lt_iff_toInt_lt, Int32.le_iff_toInt_le, ← Int32.toInt_inj, Int32.reduceToInt, nI_toInt] at c1 c4 m2MDisIn m5MDisIn; done)
              | (exfalso; simp (disch := omega) only [Int32.lt_iff_toInt_lt, Int32.le_iff_toInt_le, ← Int32.toInt_inj, Int32.reduceToInt, nI_toInt] at c1 c4 m2MDisIn m5MDisIn; omega)
          · refine jr_ic rfl ?_
            refine jr_goto rfl ?_
            refine jr_zret rfl rfl rfl (Nat.zero_le _) (Nat.zero_le _) ?_
            refine jr_if_eq rfl (fun z => absurd z (by decide)) (fun _ => ?_)
            refine jr_aload rfl rfl ?_
            refine jr_iload rfl rfl ?_
            refine jr_cv1 (mc' := 0) (ms' := 0) rfl jm_MD_canTurnTo_n jm_MD_canTurnTo_f rfl rfl rfl rfl rfl rfl rfl (Nat.zero_le _) (Nat.zero_le _) ?_
            show jx_W (jm_MD_canTurnTo, _, _, _, _, _, _) _ 0 0 0 [some _, some _, none] [] _
            refine jr_aload rfl rfl ?_
            refine jr_cv0 (mc' := 0) (ms' := 0) rfl jm_MD_hasMonths_n jm_MD_hasMonths_f rfl rfl rfl rfl rfl rfl rfl (Nat.zero_le _) (Nat.zero_le _) ?_
            show jx_W (jm_MD_hasMonths, _, _, _, _, _, _) _ 0 0 0 [some _] [] _
            refine jr_aload rfl rfl ?_
            refine jr_getR rfl rfl rfl rfl (Or.inl rfl) ?_
            refine jr_aload rfl rfl ?_
            refine jr_getI rfl rfl ?_
            refine jr_iald (len := 2) rfl rfl hw.1 (by omega) ?_
            refine jr_if_le rfl (fun m5MDhasMonths => ?_) (fun m5MDhasMonths => ?_)
            · refine jr_ic rfl ?_
              refine jr_zret rfl rfl rfl (Nat.zero_le _) (Nat.zero_le _) ?_
              refine jr_if_eq rfl (fun _ => ?_) (fun z => absurd (by decide) z)
              refine jr_ic rfl ?_
              refine jr_zret rfl rfl rfl (Nat.zero_le _) (Nat.zero_le _) ?_
              refine jr_if_ne rfl (fun z => absurd (by decide) z) (fun _ => ?_)
              refine jr_ic rfl ?_
              refine jr_iret rfl rfl (Nat.zero_le _) (Nat.zero_le _) ?_
              first
                | exact ⟨rfl, hRel0⟩
                | (exfalso; omega)
                | (exfalso; simp (disch := omega) only [Int32.lt_iff_toInt_lt, Int32.le_iff_toInt_le, ← Int32.toInt_inj, Int32.reduceToInt, nI_toInt] at c1 c4 m2MDisIn m5MDisIn m5MDhasMonths; done)
                | (exfalso; simp (disch := omega) only [Int32.lt_iff_toInt_lt, Int32.le_iff_toInt_le, ← Int32.toInt_inj, Int32.reduceToInt, nI_toInt] at c1 c4 m2MDisIn m5MDisIn m5MDhasMonths; omega)
            · refine jr_ic rfl ?_
              refine jr_goto rfl ?_
              refine jr_zret rfl rfl rfl (Nat.zero_le _) (Nat.zero_le _) ?_
              refine jr_if_eq rfl (fun z => absurd z (by decide)) (fun _ => ?_)
              refine jr_iload rfl rfl ?_
              refine jr_ic rfl ?_
              refine jr_ic rfl ?_
              refine jr_cs3 (mc' := 0) (ms' := 0) rfl jm_MD_isIn_n jm_MD_isIn_f rfl rfl rfl rfl rfl (Nat.zero_le _) (Nat.zero_le _) ?_
              show jx_W (jm_MD_isIn, _, _, _, _, _, _) _ 0 0 0 [some _, some _, some _] [] _
              refine jr_iload rfl rfl ?_
              refine jr_iload rfl rfl ?_
              refine jr_icmp_lt rfl (fun m2MDisIn_2 => ?_) (fun m2MDisIn_2 => ?_)
              · refine jr_ic rfl ?_
                refine jr_zret rfl rfl rfl (Nat.zero_le _) (Nat.zero_le _) ?_
                refine jr_if_ne rfl (fun z => absurd (by decide) z) (fun _ => ?_)
                refine jr_ic rfl ?_
                refine jr_zret rfl rfl rfl (Nat.zero_le _) (Nat.zero_le _) ?_
                refine jr_if_ne rfl (fun z => absurd (by decide) z) (fun _ => ?_)
                refine jr_ic rfl ?_
                refine jr_iret rfl rfl (Nat.zero_le _) (Nat.zero_le _) ?_
                first
                  | exact ⟨rfl, hRel0⟩
                  | (exfalso; omega)
                  | (exfalso; simp (disch := omega) only [Int32.lt_iff_toInt_lt, Int32.le_iff_toInt_le, ← Int32.toInt_inj, Int32.reduceToInt, nI_toInt] at c1 c4 m2MDisIn m5MDisIn m5MDhasMonths m2MDisIn_2; done)
                  | (exfalso; simp (disch := omega) only [Int32.lt_iff_toInt_lt, Int32.le_iff_toInt_le, ← Int32.toInt_inj, Int32.reduceToInt, nI_toInt] at c1 c4 m2MDisIn m5MDisIn m5MDhasMonths m2MDisIn_2; omega)
              · refine jr_iload rfl rfl ?_
                refine jr_iload rfl rfl ?_
                refine jr_icmp_gt rfl (fun m5MDisIn_2 => ?_) (fun m5MDisIn_2 => ?_)
                · refine jr_ic rfl ?_
                  refine jr_zret rfl rfl rfl (Nat.zero_le _) (Nat.zero_le _) ?_
                  refine jr_if_ne rfl (fun z => absurd (by decide) z) (fun _ => ?_)
                  refine jr_ic rfl ?_
                  refine jr_zret rfl rfl rfl (Nat.zero_le _) (Nat.zero_le _) ?_
                  refine jr_if_ne rfl (fun z => absurd (by decide) z) (fun _ => ?_)
                  refine jr_ic rfl ?_
                  refine jr_iret rfl rfl (Nat.zero_le _) (Nat.zero_le _) ?_
                  first
                    | exact ⟨rfl, hRel0⟩
                    | (exfalso; omega)
                    | (exfalso; simp (disch := omega) only [Int32.lt_iff_toInt_lt, Int32.le_iff_toInt_le, ← Int32.toInt_inj, Int32.reduceToInt, nI_toInt] at c1 c4 m2MDisIn m5MDisIn m5MDhasMonths m2MDisIn_2 m5MDisIn_2; done)
                    | (exfalso; simp (disch := omega) only [Int32.lt_iff_toInt_lt, Int32.le_iff_toInt_le, ← Int32.toInt_inj, Int32.reduceToInt, nI_toInt] at c1 c4 m2MDisIn m5MDisIn m5MDhasMonths m2MDisIn_2 m5MDisIn_2; omega)
                · refine jr_ic rfl ?_
                  refine jr_goto rfl ?_
                  refine jr_zret rfl rfl rfl (Nat.zero_le _) (Nat.zero_le _) ?_
                  refine jr_if_ne rfl (fun _ => ?_) (fun z => absurd z (by decide))
                  refine jr_aload rfl rfl ?_
                  refine jr_cv0 (mc' := 0) (ms' := 0) rfl jm_MD_layVotes_n jm_MD_layVotes_f rfl rfl rfl rfl rfl rfl rfl (Nat.zero_le _) (Nat.zero_le _) ?_
                  first
                    | (exfalso; omega)
                    | (exfalso; simp (disch := omega) only [Int32.lt_iff_toInt_lt, Int32.le_iff_toInt_le, ← Int32.toInt_inj, Int32.reduceToInt, nI_toInt] at c1 c4 m2MDisIn m5MDisIn m5MDhasMonths m2MDisIn_2 m5MDisIn_2; done)
                    | (exfalso; simp (disch := omega) only [Int32.lt_iff_toInt_lt, Int32.le_iff_toInt_le, ← Int32.toInt_inj, Int32.reduceToInt, nI_toInt] at c1 c4 m2MDisIn m5MDisIn m5MDhasMonths m2MDisIn_2 m5MDisIn_2; omega)
      · refine jr_aload rfl rfl ?_
        refine jr_iload rfl rfl ?_
        refine jr_cv1 (mc' := 0) (ms' := 0) rfl jm_JV_canBeAimedAt_n jm_JV_canBeAimedAt_f rfl rfl rfl rfl rfl rfl rfl (Nat.zero_le _) (Nat.zero_le _) ?_
        show jx_W (jm_JV_canBeAimedAt, _, _, _, _, _, _) _ 0 0 0 [some _, some _] [] _
        refine jr_aload rfl rfl ?_
        refine jr_getM rfl rfl rfl rfl hto ?_
        refine jr_getI rfl rfl ?_
        refine jr_if_ne rfl (fun c3JVcanBeAimedAt => ?_) (fun c3JVcanBeAimedAt => ?_)
        · refine jr_aload rfl rfl ?_
          refine jr_getR rfl rfl rfl rfl (Or.inl rfl) ?_
          refine jr_aload rfl rfl ?_
          refine jr_getR rfl rfl rfl rfl (Or.inl rfl) ?_
          refine jr_cv1 (mc' := 0) (ms' := 0) rfl jm_Sway_begin_n jm_Sway_begin_f rfl rfl rfl rfl rfl rfl rfl (Nat.zero_le _) (Nat.zero_le _) ?_
          first
            | (exfalso; omega)
            | (exfalso; simp (disch := omega) only [Int32.lt_iff_toInt_lt, Int32.le_iff_toInt_le, ← Int32.toInt_inj, Int32.reduceToInt, nI_toInt] at c1 c4 c3JVcanBeAimedAt; done)
            | (exfalso; simp (disch := omega) only [Int32.lt_iff_toInt_lt, Int32.le_iff_toInt_le, ← Int32.toInt_inj, Int32.reduceToInt, nI_toInt] at c1 c4 c3JVcanBeAimedAt; omega)
        · refine jr_ic rfl ?_
          refine jr_zret rfl rfl rfl (Nat.zero_le _) (Nat.zero_le _) ?_
          refine jr_if_ne rfl (fun z => absurd (by decide) z) (fun _ => ?_)
          refine jr_ic rfl ?_
          refine jr_iret rfl rfl (Nat.zero_le _) (Nat.zero_le _) ?_
          show jx_W (jm_MD_bribe, d + 40, 0, 0, false, 1, _) _ 0 0 0 [some _, some _, some _, none, none, none, none, none] [] _
          refine jr_iload rfl rfl ?_
          refine jr_ic rfl ?_
          refine jr_ic rfl ?_
          refine jr_cs3 (mc' := 0) (ms' := 0) rfl jm_MD_isIn_n jm_MD_isIn_f rfl rfl rfl rfl rfl (Nat.zero_le _) (Nat.zero_le _) ?_
          show jx_W (jm_MD_isIn, _, _, _, _, _, _) _ 0 0 0 [some _, some _, some _] [] _
          refine jr_iload rfl rfl ?_
          refine jr_iload rfl rfl ?_
          refine jr_icmp_lt rfl (fun m2MDisIn => ?_) (fun m2MDisIn => ?_)
          · refine jr_ic rfl ?_
            refine jr_zret rfl rfl rfl (Nat.zero_le _) (Nat.zero_le _) ?_
            refine jr_if_eq rfl (fun _ => ?_) (fun z => absurd (by decide) z)
            refine jr_ic rfl ?_
            refine jr_iret rfl rfl (Nat.zero_le _) (Nat.zero_le _) ?_
            first
              | exact ⟨rfl, hRel0⟩
              | (exfalso; omega)
              | (exfalso; simp (disch := omega) only [Int32.lt_iff_toInt_lt, Int32.le_iff_toInt_le, ← Int32.toInt_inj, Int32.reduceToInt, nI_toInt] at c1 c4 c3JVcanBeAimedAt m2MDisIn; done)
              | (exfalso; simp (disch := omega) only [Int32.lt_iff_toInt_lt, Int32.le_iff_toInt_le, ← Int32.toInt_inj, Int32.reduceToInt, nI_toInt] at c1 c4 c3JVcanBeAimedAt m2MDisIn; omega)
          · refine jr_iload rfl rfl ?_
            refine jr_iload rfl rfl ?_
            refine jr_icmp_gt rfl (fun m5MDisIn => ?_) (fun m5MDisIn => ?_)
            · refine jr_ic rfl ?_
              refine jr_zret rfl rfl rfl (Nat.zero_le _) (Nat.zero_le _) ?_
              refine jr_if_eq rfl (fun _ => ?_) (fun z => absurd (by decide) z)
              refine jr_ic rfl ?_
              refine jr_iret rfl rfl (Nat.zero_le _) (Nat.zero_le _) ?_
              first
                | exact ⟨rfl, hRel0⟩
                | (exfalso; omega)
                | (exfalso; simp (disch := omega) only [Int32.lt_iff_toInt_lt, Int32.le_iff_toInt_le, ← Int32.toInt_inj, Int32.reduceToInt, nI_toInt] at c1 c4 c3JVcanBeAimedAt m2MDisIn m5MDisIn; done)
                | (exfalso; simp (disch := omega) only [Int32.lt_iff_toInt_lt, Int32.le_iff_toInt_le, ← Int32.toInt_inj, Int32.reduceToInt, nI_toInt] at c1 c4 c3JVcanBeAimedAt m2MDisIn m5MDisIn; omega)
            · refine jr_ic rfl ?_
              refine jr_goto rfl ?_
              refine jr_zret rfl rfl rfl (Nat.zero_le _) (Nat.zero_le _) ?_
              refine jr_if_eq rfl (fun z => absurd z (by decide)) (fun _ => ?_)
              refine jr_aload rfl rfl ?_
              refine jr_iload rfl rfl ?_
              refine jr_cv1 (mc' := 0) (ms' := 0) rfl jm_MD_canTurnTo_n jm_MD_canTurnTo_f rfl rfl rfl rfl rfl rfl rfl (Nat.zero_le _) (Nat.zero_le _) ?_
              show jx_W (jm_MD_canTurnTo, _, _, _, _, _, _) _ 0 0 0 [some _, some _, none] [] _
              refine jr_aload rfl rfl ?_
              refine jr_cv0 (mc' := 0) (ms' := 0) rfl jm_MD_hasMonths_n jm_MD_hasMonths_f rfl rfl rfl rfl rfl rfl rfl (Nat.zero_le _) (Nat.zero_le _) ?_
              show jx_W (jm_MD_hasMonths, _, _, _, _, _, _) _ 0 0 0 [some _] [] _
              refine jr_aload rfl rfl ?_
              refine jr_getR rfl rfl rfl rfl (Or.inl rfl) ?_
              refine jr_aload rfl rfl ?_
              refine jr_getI rfl rfl ?_
              refine jr_iald (len := 2) rfl rfl hw.1 (by omega) ?_
              refine jr_if_le rfl (fun m5MDhasMonths => ?_) (fun m5MDhasMonths => ?_)
              · refine jr_ic rfl ?_
                refine jr_zret rfl rfl rfl (Nat.zero_le _) (Nat.zero_le _) ?_
                refine jr_if_eq rfl (fun _ => ?_) (fun z => absurd (by decide) z)
                refine jr_ic rfl ?_
                refine jr_zret rfl rfl rfl (Nat.zero_le _) (Nat.zero_le _) ?_
                refine jr_if_ne rfl (fun z => absurd (by decide) z) (fun _ => ?_)
                refine jr_ic rfl ?_
                refine jr_iret rfl rfl (Nat.zero_le _) (Nat.zero_le _) ?_
                first
                  | exact ⟨rfl, hRel0⟩
                  | (exfalso; omega)
                  | (exfalso; simp (disch := omega) only [Int32.lt_iff_toInt_lt, Int32.le_iff_toInt_le, ← Int32.toInt_inj, Int32.reduceToInt, nI_toInt] at c1 c4 c3JVcanBeAimedAt m2MDisIn m5MDisIn m5MDhasMonths; done)
                  | (exfalso; simp (disch := omega) only [Int32.lt_iff_toInt_lt, Int32.le_iff_toInt_le, ← Int32.toInt_inj, Int32.reduceToInt, nI_toInt] at c1 c4 c3JVcanBeAimedAt m2MDisIn m5MDisIn m5MDhasMonths; omega)
              · refine jr_ic rfl ?_
                refine jr_goto rfl ?_
                refine jr_zret rfl rfl rfl (Nat.zero_le _) (Nat.zero_le _) ?_
                refine jr_if_eq rfl (fun z => absurd z (by decide)) (fun _ => ?_)
                refine jr_iload rfl rfl ?_
                refine jr_ic rfl ?_
                refine jr_ic rfl ?_
                refine jr_cs3 (mc' := 0) (ms' := 0) rfl jm_MD_isIn_n jm_MD_isIn_f rfl rfl rfl rfl rfl (Nat.zero_le _) (Nat.zero_le _) ?_
                show jx_W (jm_MD_isIn, _, _, _, _, _, _) _ 0 0 0 [some _, some _, some _] [] _
                refine jr_iload rfl rfl ?_
                refine jr_iload rfl rfl ?_
                refine jr_icmp_lt rfl (fun m2MDisIn_2 => ?_) (fun m2MDisIn_2 => ?_)
                · refine jr_ic rfl ?_
                  refine jr_zret rfl rfl rfl (Nat.zero_le _) (Nat.zero_le _) ?_
                  refine jr_if_ne rfl (fun z => absurd (by decide) z) (fun _ => ?_)
                  refine jr_ic rfl ?_
                  refine jr_zret rfl rfl rfl (Nat.zero_le _) (Nat.zero_le _) ?_
                  refine jr_if_ne rfl (fun z => absurd (by decide) z) (fun _ => ?_)
                  refine jr_ic rfl ?_
                  refine jr_iret rfl rfl (Nat.zero_le _) (Nat.zero_le _) ?_
                  first
                    | exact ⟨rfl, hRel0⟩
                    | (exfalso; omega)
                    | (exfalso; simp (disch := omega) only [Int32.lt_iff_toInt_lt, Int32.le_iff_toInt_le, ← Int32.toInt_inj, Int32.reduceToInt, nI_toInt] at c1 c4 c3JVcanBeAimedAt m2MDisIn m5MDisIn m5MDhasMonths m2MDisIn_2; done)
                    | (exfalso; simp (disch := omega) only [Int32.lt_iff_toInt_lt, Int32.le_iff_toInt_le, ← Int32.toInt_inj, Int32.reduceToInt, nI_toInt] at c1 c4 c3JVcanBeAimedAt m2MDisIn m5MDisIn m5MDhasMonths m2MDisIn_2; omega)
                · refine jr_iload rfl rfl ?_
                  refine jr_iload rfl rfl ?_
                  refine jr_icmp_gt rfl (fun m5MDisIn_2 => ?_) (fun m5MDisIn_2 => ?_)
                  · refine jr_ic rfl ?_
                    refine jr_zret rfl rfl rfl (Nat.zero_le _) (Nat.zero_le _) ?_
                    refine jr_if_ne rfl (fun z => absurd (by decide) z) (fun _ => ?_)
                    refine jr_ic rfl ?_
                    refine jr_zret rfl rfl rfl (Nat.zero_le _) (Nat.zero_le _) ?_
                    refine jr_if_ne rfl (fun z => absurd (by decide) z) (fun _ => ?_)
                    refine jr_ic rfl ?_
                    refine jr_iret rfl rfl (Nat.zero_le _) (Nat.zero_le _) ?_
                    first
                      | exact ⟨rfl, hRel0⟩
                      | (exfalso; omega)
                      | (exfalso; simp (disch := omega) only [Int32.lt_iff_toInt_lt, Int32.le_iff_toInt_le, ← Int32.toInt_inj, Int32.reduceToInt, nI_toInt] at c1 c4 c3JVcanBeAimedAt m2MDisIn m5MDisIn m5MDhasMonths m2MDisIn_2 m5MDisIn_2; done)
                      | (exfalso; simp (disch := omega) only [Int32.lt_iff_toInt_lt, Int32.le_iff_toInt_le, ← Int32.toInt_inj, Int32.reduceToInt, nI_toInt] at c1 c4 c3JVcanBeAimedAt m2MDisIn m5MDisIn m5MDhasMonths m2MDisIn_2 m5MDisIn_2; omega)
                  · refine jr_ic rfl ?_
                    refine jr_goto rfl ?_
                    refine jr_zret rfl rfl rfl (Nat.zero_le _) (Nat.zero_le _) ?_
                    refine jr_if_ne rfl (fun _ => ?_) (fun z => absurd z (by decide))
                    refine jr_aload rfl rfl ?_
                    refine jr_cv0 (mc' := 0) (ms' := 0) rfl jm_MD_layVotes_n jm_MD_layVotes_f rfl rfl rfl rfl rfl rfl rfl (Nat.zero_le _) (Nat.zero_le _) ?_
                    first
                      | (exfalso; omega)
                      | (exfalso; simp (disch := omega) only [Int32.lt_iff_toInt_lt, Int32.le_iff_toInt_le, ← Int32.toInt_inj, Int32.reduceToInt, nI_toInt] at c1 c4 c3JVcanBeAimedAt m2MDisIn m5MDisIn m5MDhasMonths m2MDisIn_2 m5MDisIn_2; done)
                      | (exfalso; simp (disch := omega) only [Int32.lt_iff_toInt_lt, Int32.le_iff_toInt_le, ← Int32.toInt_inj, Int32.reduceToInt, nI_toInt] at c1 c4 c3JVcanBeAimedAt m2MDisIn m5MDisIn m5MDhasMonths m2MDisIn_2 m5MDisIn_2; omega)
  · have hn1 : 0 < jz_nm hm b := by
      rcases Nat.eq_zero_or_pos (jz_nm hm b) with e | e
      · rw [e] at hnm; exact absurd hnm.1 hmo
      · exact e
    show jx_W (jm_JV_bribe, d + 40, 0, 0, false, 0, _) _ 0 0 0 [some (jv_r 10 0), some (jv_i (nI i)), some (jv_i y), none] [] _
    refine jr_iload rfl rfl ?_
    refine jr_if_lt rfl (fun c1 => ?_) (fun c1 => ?_)
    · refine jr_ic rfl ?_
      refine jr_iret rfl rfl (Nat.zero_le _) (Nat.zero_le _) ?_
      show jx_W (jm_MD_bribe, d + 40, 0, 0, false, 1, _) _ 0 0 0 [some _, some _, some _, none, none, none, none, none] [] _
      refine jr_iload rfl rfl ?_
      refine jr_ic rfl ?_
      refine jr_ic rfl ?_
      refine jr_cs3 (mc' := 0) (ms' := 0) rfl jm_MD_isIn_n jm_MD_isIn_f rfl rfl rfl rfl rfl (Nat.zero_le _) (Nat.zero_le _) ?_
      show jx_W (jm_MD_isIn, _, _, _, _, _, _) _ 0 0 0 [some _, some _, some _] [] _
      refine jr_iload rfl rfl ?_
      refine jr_iload rfl rfl ?_
      refine jr_icmp_lt rfl (fun m2MDisIn => ?_) (fun m2MDisIn => ?_)
      · refine jr_ic rfl ?_
        refine jr_zret rfl rfl rfl (Nat.zero_le _) (Nat.zero_le _) ?_
        refine jr_if_eq rfl (fun _ => ?_) (fun z => absurd (by decide) z)
        refine jr_ic rfl ?_
        refine jr_iret rfl rfl (Nat.zero_le _) (Nat.zero_le _) ?_
        first
          | (have q := jz_Rel_p (S := S1) (k := 0 + 1) (S' := fun x => jh_I hm x 0) hRel0 (fun _ _ => rfl); rw [jS_self] at q; exact ⟨rfl, q⟩)
          | exact ⟨rfl, (jz_Rel_p hRel0 hS3)⟩
          | exact ⟨rfl, (jz_Rel_p hRel0 hS2)⟩
          | exact ⟨rfl, hRel0⟩
          | (exfalso; omega)
          | (exfalso; simp (disch := omega) only [Int32.lt_iff_toInt_lt, Int32.le_iff_toInt_le, ← Int32.toInt_inj, Int32.reduceToInt, nI_toInt] at c1 m2MDisIn; done)
          | (exfalso; simp (disch := omega) only [Int32.lt_iff_toInt_lt, Int32.le_iff_toInt_le, ← Int32.toInt_inj, Int32.reduceToInt, nI_toInt] at c1 m2MDisIn; omega)
      · refine jr_iload rfl rfl ?_
        refine jr_iload rfl rfl ?_
        refine jr_icmp_gt rfl (fun m5MDisIn => ?_) (fun m5MDisIn => ?_)
        · refine jr_ic rfl ?_
          refine jr_zret rfl rfl rfl (Nat.zero_le _) (Nat.zero_le _) ?_
          refine jr_if_eq rfl (fun _ => ?_) (fun z => absurd (by decide) z)
          refine jr_ic rfl ?_
          refine jr_iret rfl rfl (Nat.zero_le _) (Nat.zero_le _) ?_
          first
            | (have q := jz_Rel_p (S := S1) (k := 0 + 1) (S' := fun x => jh_I hm x 0) hRel0 (fun _ _ => rfl); rw [jS_self] at q; exact ⟨rfl, q⟩)
            | exact ⟨rfl, (jz_Rel_p hRel0 hS3)⟩
            | exact ⟨rfl, (jz_Rel_p hRel0 hS2)⟩
            | exact ⟨rfl, hRel0⟩
            | (exfalso; omega)
            | (exfalso; simp (disch := omega) only [Int32.lt_iff_toInt_lt, Int32.le_iff_toInt_le, ← Int32.toInt_inj, Int32.reduceToInt, nI_toInt] at c1 m2MDisIn m5MDisIn; done)
            | (exfalso; simp (disch := omega) only [Int32.lt_iff_toInt_lt, Int32.le_iff_toInt_le, ← Int32.toInt_inj, Int32.reduceToInt, nI_toInt] at c1 m2MDisIn m5MDisIn; omega)
        · refine jr_ic rfl ?_
          refine jr_goto rfl ?_
          refine jr_zret rfl rfl rfl (Nat.zero_le _) (Nat.zero_le _) ?_
          refine jr_if_eq rfl (fun z => absurd z (by decide)) (fun _ => ?_)
          refine jr_aload rfl rfl ?_
          refine jr_iload rfl rfl ?_
          refine jr_cv1 (mc' := 0) (ms' := 0) rfl jm_MD_canTurnTo_n jm_MD_canTurnTo_f rfl rfl rfl rfl rfl rfl rfl (Nat.zero_le _) (Nat.zero_le _) ?_
          refine eB_canT hw hmo (by omega) (fun S2 hS2 hM2 hV2 => ?_)
          refine jr_if_ne rfl (fun m8 => ?_) (fun m8 => ?_)
          · refine jr_ic rfl ?_
            refine jr_ist3 rfl rfl ?_
            refine jr_ic rfl ?_
            refine jr_ist4 rfl rfl ?_
            refine jr_ic rfl ?_
            refine jr_ist5 rfl rfl ?_
            first
              | (exfalso; omega)
              | (exfalso; simp (disch := omega) only [Int32.lt_iff_toInt_lt, Int32.le_iff_toInt_le, ← Int32.toInt_inj, Int32.reduceToInt, nI_toInt] at c1 m2MDisIn m5MDisIn m8; done)
              | (exfalso; simp (disch := omega) only [Int32.lt_iff_toInt_lt, Int32.le_iff_toInt_le, ← Int32.toInt_inj, Int32.reduceToInt, nI_toInt] at c1 m2MDisIn m5MDisIn m8; omega)
          · refine jr_ic rfl ?_
            refine jr_iret rfl rfl (Nat.zero_le _) (Nat.zero_le _) ?_
            first
              | (have q := jz_Rel_p (S := S1) (k := 0 + 1) (S' := fun x => jh_I hm x 0) hRel0 (fun _ _ => rfl); rw [jS_self] at q; exact ⟨rfl, q⟩)
              | exact ⟨rfl, (jz_Rel_p hRel0 hS3)⟩
              | exact ⟨rfl, (jz_Rel_p hRel0 hS2)⟩
              | exact ⟨rfl, hRel0⟩
              | (exfalso; omega)
              | (exfalso; simp (disch := omega) only [Int32.lt_iff_toInt_lt, Int32.le_iff_toInt_le, ← Int32.toInt_inj, Int32.reduceToInt, nI_toInt] at c1 m2MDisIn m5MDisIn m8; done)
              | (exfalso; simp (disch := omega) only [Int32.lt_iff_toInt_lt, Int32.le_iff_toInt_le, ← Int32.toInt_inj, Int32.reduceToInt, nI_toInt] at c1 m2MDisIn m5MDisIn m8; omega)
    · refine jr_iload rfl rfl ?_
      refine jr_ic rfl ?_
      refine jr_icmp_gt rfl (fun c4 => ?_) (fun c4 => ?_)
      · refine jr_ic rfl ?_
        refine jr_iret rfl rfl (Nat.zero_le _) (Nat.zero_le _) ?_
        show jx_W (jm_MD_bribe, d + 40, 0, 0, false, 1, _) _ 0 0 0 [some _, some _, some _, none, none, none, none, none] [] _
        refine jr_iload rfl rfl ?_
        refine jr_ic rfl ?_
        refine jr_ic rfl ?_
        refine jr_cs3 (mc' := 0) (ms' := 0) rfl jm_MD_isIn_n jm_MD_isIn_f rfl rfl rfl rfl rfl (Nat.zero_le _) (Nat.zero_le _) ?_
        show jx_W (jm_MD_isIn, _, _, _, _, _, _) _ 0 0 0 [some _, some _, some _] [] _
        refine jr_iload rfl rfl ?_
        refine jr_iload rfl rfl ?_
        refine jr_icmp_lt rfl (fun m2MDisIn => ?_) (fun m2MDisIn => ?_)
        · refine jr_ic rfl ?_
          refine jr_zret rfl rfl rfl (Nat.zero_le _) (Nat.zero_le _) ?_
          refine jr_if_eq rfl (fun _ => ?_) (fun z => absurd (by decide) z)
          refine jr_ic rfl ?_
          refine jr_iret rfl rfl (Nat.zero_le _) (Nat.zero_le _) ?_
          first
            | (have q := jz_Rel_p (S := S1) (k := 0 + 1) (S' := fun x => jh_I hm x 0) hRel0 (fun _ _ => rfl); rw [jS_self] at q; exact ⟨rfl, q⟩)
            | exact ⟨rfl, (jz_Rel_p hRel0 hS3)⟩
            | exact ⟨rfl, (jz_Rel_p hRel0 hS2)⟩
            | exact ⟨rfl, hRel0⟩
            | (exfalso; omega)
            | (exfalso; simp (disch := omega) only [Int32.lt_iff_toInt_lt, Int32.le_iff_toInt_le, ← Int32.toInt_inj, Int32.reduceToInt, nI_toInt] at c1 c4 m2MDisIn; done)
            | (exfalso; simp (disch := omega) only [Int32.lt_iff_toInt_lt, Int32.le_iff_toInt_le, ← Int32.toInt_inj, Int32.reduceToInt, nI_toInt] at c1 c4 m2MDisIn; omega)
        · refine jr_iload rfl rfl ?_
          refine jr_iload rfl rfl ?_
          refine jr_icmp_gt rfl (fun m5MDisIn => ?_) (fun m5MDisIn => ?_)
          · refine jr_ic rfl ?_
            refine jr_zret rfl rfl rfl (Nat.zero_le _) (Nat.zero_le _) ?_
            refine jr_if_eq rfl (fun _ => ?_) (fun z => absurd (by decide) z)
            refine jr_ic rfl ?_
            refine jr_iret rfl rfl (Nat.zero_le _) (Nat.zero_le _) ?_
            first
              | (have q := jz_Rel_p (S := S1) (k := 0 + 1) (S' := fun x => jh_I hm x 0) hRel0 (fun _ _ => rfl); rw [jS_self] at q; exact ⟨rfl, q⟩)
              | exact ⟨rfl, (jz_Rel_p hRel0 hS3)⟩
              | exact ⟨rfl, (jz_Rel_p hRel0 hS2)⟩
              | exact ⟨rfl, hRel0⟩
              | (exfalso; omega)
              | (exfalso; simp (disch := omega) only [Int32.lt_iff_toInt_lt, Int32.le_iff_toInt_le, ← Int32.toInt_inj, Int32.reduceToInt, nI_toInt] at c1 c4 m2MDisIn m5MDisIn; done)
              | (exfalso; simp (disch := omega) only [Int32.lt_iff_toInt_lt, Int32.le_iff_toInt_le, ← Int32.toInt_inj, Int32.reduceToInt, nI_toInt] at c1 c4 m2MDisIn m5MDisIn; omega)
          · refine jr_ic rfl ?_
            refine jr_goto rfl ?_
            refine jr_zret rfl rfl rfl (Nat.zero_le _) (Nat.zero_le _) ?_
            refine jr_if_eq rfl (fun z => absurd z (by decide)) (fun _ => ?_)
            refine jr_aload rfl rfl ?_
            refine jr_iload rfl rfl ?_
            refine jr_cv1 (mc' := 0) (ms' := 0) rfl jm_MD_canTurnTo_n jm_MD_canTurnTo_f rfl rfl rfl rfl rfl rfl rfl (Nat.zero_le _) (Nat.zero_le _) ?_
            refine eB_canT hw hmo (by omega) (fun S2 hS2 hM2 hV2 => ?_)
            refine jr_if_ne rfl (fun m8 => ?_) (fun m8 => ?_)
            · refine jr_ic rfl ?_
              refine jr_ist3 rfl rfl ?_
              refine jr_ic rfl ?_
              refine jr_ist4 rfl rfl ?_
              refine jr_ic rfl ?_
              refine jr_ist5 rfl rfl ?_
              first
                | (exfalso; omega)
                | (exfalso; simp (disch := omega) only [Int32.lt_iff_toInt_lt, Int32.le_iff_toInt_le, ← Int32.toInt_inj, Int32.reduceToInt, nI_toInt] at c1 c4 m2MDisIn m5MDisIn m8; done)
                | (exfalso; simp (disch := omega) only [Int32.lt_iff_toInt_lt, Int32.le_iff_toInt_le, ← Int32.toInt_inj, Int32.reduceToInt, nI_toInt] at c1 c4 m2MDisIn m5MDisIn m8; omega)
            · refine jr_ic rfl ?_
              refine jr_iret rfl rfl (Nat.zero_le _) (Nat.zero_le _) ?_
              first
                | (have q := jz_Rel_p (S := S1) (k := 0 + 1) (S' := fun x => jh_I hm x 0) hRel0 (fun _ _ => rfl); rw [jS_self] at q; exact ⟨rfl, q⟩)
                | exact ⟨rfl, (jz_Rel_p hRel0 hS3)⟩
                | exact ⟨rfl, (jz_Rel_p hRel0 hS2)⟩
                | exact ⟨rfl, hRel0⟩
                | (exfalso; omega)
                | (exfalso; simp (disch := omega) only [Int32.lt_iff_toInt_lt, Int32.le_iff_toInt_le, ← Int32.toInt_inj, Int32.reduceToInt, nI_toInt] at c1 c4 m2MDisIn m5MDisIn m8; done)
                | (exfalso; simp (disch := omega) only [Int32.lt_iff_toInt_lt, Int32.le_iff_toInt_le, ← Int32.toInt_inj, Int32.reduceToInt, nI_toInt] at c1 c4 m2MDisIn m5MDisIn m8; omega)
      · refine jr_aload rfl rfl ?_
        refine jr_iload rfl rfl ?_
        refine jr_cv1 (mc' := 0) (ms' := 0) rfl jm_JV_canBeAimedAt_n jm_JV_canBeAimedAt_f rfl rfl rfl rfl rfl rfl rfl (Nat.zero_le _) (Nat.zero_le _) ?_
        show jx_W (jm_JV_canBeAimedAt, _, _, _, _, _, _) _ 0 0 0 [some _, some _] [] _
        refine jr_aload rfl rfl ?_
        refine jr_getM rfl rfl rfl rfl hto ?_
        refine jr_getI rfl rfl ?_
        refine jr_if_ne rfl (fun c3JVcanBeAimedAt => ?_) (fun c3JVcanBeAimedAt => ?_)
        · refine jr_aload rfl rfl ?_
          refine jr_getR rfl rfl rfl rfl (Or.inl rfl) ?_
          refine jr_aload rfl rfl ?_
          refine jr_getR rfl rfl rfl rfl (Or.inl rfl) ?_
          refine jr_cv1 (mc' := 0) (ms' := 0) rfl jm_Sway_begin_n jm_Sway_begin_f rfl rfl rfl rfl rfl rfl rfl (Nat.zero_le _) (Nat.zero_le _) ?_
          refine ev_Sway_begin hw hA hR hmo (fun S1 hS1 => ?_)
          refine jr_aload rfl rfl ?_
          refine jr_getR rfl rfl rfl rfl (Or.inl rfl) ?_
          refine jr_iload rfl rfl ?_
          refine jr_cv1 (mc' := 0) (ms' := 0) rfl jm_Poll_mayBe_n jm_Poll_mayBe_f rfl rfl rfl rfl rfl rfl rfl (Nat.zero_le _) (Nat.zero_le _) ?_
          refine ev_Poll_mayBe (l := i) (by omega) ?_
          rw [hS1.2.1 i (by omega), jw_mayb_if]
          refine jr_zret rfl rfl (by rcases jw_mayb_01 (h := hm) (b := b) (l := i) with e | e <;> rw [e] <;> rfl) (Nat.zero_le _) (Nat.zero_le _) ?_
          refine jr_if_ne rfl (fun c8 => ?_) (fun c8 => ?_)
          · refine jr_aload rfl rfl ?_
            refine jr_getR rfl rfl rfl rfl (Or.inl rfl) ?_
            refine jr_iload rfl rfl ?_
            refine jr_cv1 (mc' := 0) (ms' := 0) rfl jm_Sway_cheapestSet_n jm_Sway_cheapestSet_f rfl rfl rfl rfl rfl rfl rfl (Nat.zero_le _) (Nat.zero_le _) ?_
            refine ev_cheap hw hA hR hmo hS1 (by omega) (fun S4 hS4 => ?_)
            rcases hcs : jw_cs hm b i (2 ^ jz_np hm b) 0 none with _ | q
            · show jx_W _ _ _ _ _ _ [jv_i (-1)] _
              refine jr_ist3 rfl rfl ?_
              refine jr_iload rfl rfl ?_
              refine jr_ic rfl ?_
              refine jr_icmp_ne rfl (fun z => absurd (by decide) z) (fun _ => ?_)
              refine jr_ic rfl ?_
              refine jr_iret rfl rfl (Nat.zero_le _) (Nat.zero_le _) ?_
              show jx_W (jm_MD_bribe, d + 40, 0, 0, false, 1, _) _ 0 0 0 [some _, some _, some _, none, none, none, none, none] [] _
              refine jr_iload rfl rfl ?_
              refine jr_ic rfl ?_
              refine jr_ic rfl ?_
              refine jr_cs3 (mc' := 0) (ms' := 0) rfl jm_MD_isIn_n jm_MD_isIn_f rfl rfl rfl rfl rfl (Nat.zero_le _) (Nat.zero_le _) ?_
              show jx_W (jm_MD_isIn, _, _, _, _, _, _) _ 0 0 0 [some _, some _, some _] [] _
              refine jr_iload rfl rfl ?_
              refine jr_iload rfl rfl ?_
              refine jr_icmp_lt rfl (fun m2MDisIn => ?_) (fun m2MDisIn => ?_)
              · refine jr_ic rfl ?_
                refine jr_zret rfl rfl rfl (Nat.zero_le _) (Nat.zero_le _) ?_
                refine jr_if_eq rfl (fun _ => ?_) (fun z => absurd (by decide) z)
                refine jr_ic rfl ?_
                refine jr_iret rfl rfl (Nat.zero_le _) (Nat.zero_le _) ?_
                first
                  | (exfalso; omega)
                  | (exfalso; simp (disch := omega) only [Int32.lt_iff_toInt_lt, Int32.le_iff_toInt_le, ← Int32.toInt_inj, Int32.reduceToInt, nI_toInt] at c1 c4 c3JVcanBeAimedAt c8 m2MDisIn; done)
                  | (exfalso; simp (disch := omega) only [Int32.lt_iff_toInt_lt, Int32.le_iff_toInt_le, ← Int32.toInt_inj, Int32.reduceToInt, nI_toInt] at c1 c4 c3JVcanBeAimedAt c8 m2MDisIn; omega)
              · refine jr_iload rfl rfl ?_
                refine jr_iload rfl rfl ?_
                refine jr_icmp_gt rfl (fun m5MDisIn => ?_) (fun m5MDisIn => ?_)
                · refine jr_ic rfl ?_
                  refine jr_zret rfl rfl rfl (Nat.zero_le _) (Nat.zero_le _) ?_
                  refine jr_if_eq rfl (fun _ => ?_) (fun z => absurd (by decide) z)
                  refine jr_ic rfl ?_
                  refine jr_iret rfl rfl (Nat.zero_le _) (Nat.zero_le _) ?_
                  first
                    | (exfalso; omega)
                    | (exfalso; simp (disch := omega) only [Int32.lt_iff_toInt_lt, Int32.le_iff_toInt_le, ← Int32.toInt_inj, Int32.reduceToInt, nI_toInt] at c1 c4 c3JVcanBeAimedAt c8 m2MDisIn m5MDisIn; done)
                    | (exfalso; simp (disch := omega) only [Int32.lt_iff_toInt_lt, Int32.le_iff_toInt_le, ← Int32.toInt_inj, Int32.reduceToInt, nI_toInt] at c1 c4 c3JVcanBeAimedAt c8 m2MDisIn m5MDisIn; omega)
                · refine jr_ic rfl ?_
                  refine jr_goto rfl ?_
                  refine jr_zret rfl rfl rfl (Nat.zero_le _) (Nat.zero_le _) ?_
                  refine jr_if_eq rfl (fun z => absurd z (by decide)) (fun _ => ?_)
                  refine jr_aload rfl rfl ?_
                  refine jr_iload rfl rfl ?_
                  refine jr_cv1 (mc' := 0) (ms' := 0) rfl jm_MD_canTurnTo_n jm_MD_canTurnTo_f rfl rfl rfl rfl rfl rfl rfl (Nat.zero_le _) (Nat.zero_le _) ?_
                  refine eB_canT hw hmo (by omega) (fun S2 hS2 hM2 hV2 => ?_)
                  refine jr_if_ne rfl (fun m8 => ?_) (fun m8 => ?_)
                  · refine jr_ic rfl ?_
                    refine jr_ist3 rfl rfl ?_
                    refine jr_ic rfl ?_
                    refine jr_ist4 rfl rfl ?_
                    refine jr_ic rfl ?_
                    refine jr_ist5 rfl rfl ?_
                    refine lp_MD_bribe 0 none 0 _ _ hw hS2 hmo (by omega) hM2 (fun p hp => (hV2 p hp).1) (fun p hp => (hV2 p hp).2) (Nat.zero_le _) (fun q hq => by cases hq) (fun q hq => by cases hq) (fun S5 s' L' y6 y7 hS5 hL5 => ?_)
                    rw [Nat.sub_zero, hcs] at hL5 ⊢
                    refine jr_iload rfl rfl ?_
                    refine jr_if_lt rfl (fun _ => ?_) (fun z => absurd (by decide) z)
                    refine jr_iload rfl rfl ?_
                    refine jr_goto rfl ?_
                    refine jr_iret rfl rfl (Nat.zero_le _) (Nat.zero_le _) ?_
                    exact ⟨rfl, jz_Rel_p hRel0 hS5⟩
                  · refine jr_ic rfl ?_
                    refine jr_iret rfl rfl (Nat.zero_le _) (Nat.zero_le _) ?_
                    first
                      | exact absurd m8 (by assumption)
                      | exact absurd (by assumption) m8
                      | (exfalso; omega)
            · have hq32 : q < 2 ^ jz_np hm b := jw_cs_lt (2 ^ jz_np hm b) 0 none (fun q hq => by cases hq) (by omega) q hcs
              show jx_W _ _ _ _ _ _ [jv_i (nI q)] _
              refine jr_ist3 rfl rfl ?_
              refine jr_iload rfl rfl ?_
              refine jr_ic rfl ?_
              refine jr_icmp_ne rfl (fun _ => ?_) (fun z => absurd z (show ¬ nI q = -1 from fun z => nI_pos (show q < 2 ^ 31 by omega) (by rw [z]; decide)))
              refine jr_iload rfl rfl ?_
              refine jr_if_ne rfl (fun c22 => ?_) (fun c22 => ?_)
              · refine jr_iload rfl rfl ?_
                refine jr_iret rfl rfl (Nat.zero_le _) (Nat.zero_le _) ?_
                show jx_W (jm_MD_bribe, d + 40, 0, 0, false, 1, _) _ 0 0 0 [some _, some _, some _, none, none, none, none, none] [] _
                refine jr_iload rfl rfl ?_
                refine jr_ic rfl ?_
                refine jr_ic rfl ?_
                refine jr_cs3 (mc' := 0) (ms' := 0) rfl jm_MD_isIn_n jm_MD_isIn_f rfl rfl rfl rfl rfl (Nat.zero_le _) (Nat.zero_le _) ?_
                show jx_W (jm_MD_isIn, _, _, _, _, _, _) _ 0 0 0 [some _, some _, some _] [] _
                refine jr_iload rfl rfl ?_
                refine jr_iload rfl rfl ?_
                refine jr_icmp_lt rfl (fun m2MDisIn => ?_) (fun m2MDisIn => ?_)
                · refine jr_ic rfl ?_
                  refine jr_zret rfl rfl rfl (Nat.zero_le _) (Nat.zero_le _) ?_
                  refine jr_if_eq rfl (fun _ => ?_) (fun z => absurd (by decide) z)
                  refine jr_ic rfl ?_
                  refine jr_iret rfl rfl (Nat.zero_le _) (Nat.zero_le _) ?_
                  first
                    | (exfalso; omega)
                    | (exfalso; simp (disch := omega) only [Int32.lt_iff_toInt_lt, Int32.le_iff_toInt_le, ← Int32.toInt_inj, Int32.reduceToInt, nI_toInt] at c1 c4 c3JVcanBeAimedAt c8 c22 m2MDisIn; done)
                    | (exfalso; simp (disch := omega) only [Int32.lt_iff_toInt_lt, Int32.le_iff_toInt_le, ← Int32.toInt_inj, Int32.reduceToInt, nI_toInt] at c1 c4 c3JVcanBeAimedAt c8 c22 m2MDisIn; omega)
                · refine jr_iload rfl rfl ?_
                  refine jr_iload rfl rfl ?_
                  refine jr_icmp_gt rfl (fun m5MDisIn => ?_) (fun m5MDisIn => ?_)
                  · refine jr_ic rfl ?_
                    refine jr_zret rfl rfl rfl (Nat.zero_le _) (Nat.zero_le _) ?_
                    refine jr_if_eq rfl (fun _ => ?_) (fun z => absurd (by decide) z)
                    refine jr_ic rfl ?_
                    refine jr_iret rfl rfl (Nat.zero_le _) (Nat.zero_le _) ?_
                    first
                      | (exfalso; omega)
                      | (exfalso; simp (disch := omega) only [Int32.lt_iff_toInt_lt, Int32.le_iff_toInt_le, ← Int32.toInt_inj, Int32.reduceToInt, nI_toInt] at c1 c4 c3JVcanBeAimedAt c8 c22 m2MDisIn m5MDisIn; done)
                      | (exfalso; simp (disch := omega) only [Int32.lt_iff_toInt_lt, Int32.le_iff_toInt_le, ← Int32.toInt_inj, Int32.reduceToInt, nI_toInt] at c1 c4 c3JVcanBeAimedAt c8 c22 m2MDisIn m5MDisIn; omega)
                  · refine jr_ic rfl ?_
                    refine jr_goto rfl ?_
                    refine jr_zret rfl rfl rfl (Nat.zero_le _) (Nat.zero_le _) ?_
                    refine jr_if_eq rfl (fun z => absurd z (by decide)) (fun _ => ?_)
                    refine jr_aload rfl rfl ?_
                    refine jr_iload rfl rfl ?_
                    refine jr_cv1 (mc' := 0) (ms' := 0) rfl jm_MD_canTurnTo_n jm_MD_canTurnTo_f rfl rfl rfl rfl rfl rfl rfl (Nat.zero_le _) (Nat.zero_le _) ?_
                    refine eB_canT hw hmo (by omega) (fun S2 hS2 hM2 hV2 => ?_)
                    refine jr_if_ne rfl (fun m8 => ?_) (fun m8 => ?_)
                    · refine jr_ic rfl ?_
                      refine jr_ist3 rfl rfl ?_
                      refine jr_ic rfl ?_
                      refine jr_ist4 rfl rfl ?_
                      refine jr_ic rfl ?_
                      refine jr_ist5 rfl rfl ?_
                      refine lp_MD_bribe 0 none 0 _ _ hw hS2 hmo (by omega) hM2 (fun p hp => (hV2 p hp).1) (fun p hp => (hV2 p hp).2) (Nat.zero_le _) (fun q hq => by cases hq) (fun q hq => by cases hq) (fun S5 s' L' y6 y7 hS5 hL5 => ?_)
                      rw [Nat.sub_zero, hcs] at hL5 ⊢
                      refine jr_iload rfl rfl ?_
                      refine jr_if_lt rfl (fun z => absurd z (nI_pos (by omega))) (fun _ => ?_)
                      refine jr_iload rfl rfl ?_
                      refine jr_ic rfl ?_
                      refine jr_icmp_ne rfl (fun m70 => ?_) (fun m70 => ?_)
                      · refine jr_iload rfl rfl ?_
                        refine jr_iret rfl rfl (Nat.zero_le _) (Nat.zero_le _) ?_
                        first
                          | exact ⟨rfl, jz_Rel_p hRel0 hS5⟩
                          | (exfalso; omega)
                          | (exfalso; simp (disch := omega) only [Int32.lt_iff_toInt_lt, Int32.le_iff_toInt_le, ← Int32.toInt_inj, Int32.reduceToInt, nI_toInt] at c1 c4 c3JVcanBeAimedAt c8 c22 m70; done)
                          | (exfalso; simp (disch := omega) only [Int32.lt_iff_toInt_lt, Int32.le_iff_toInt_le, ← Int32.toInt_inj, Int32.reduceToInt, nI_toInt] at c1 c4 c3JVcanBeAimedAt c8 c22 m70; omega)
                      · refine jr_iload rfl rfl ?_
                        refine jr_goto rfl ?_
                        refine jr_iret rfl rfl (Nat.zero_le _) (Nat.zero_le _) ?_
                        first
                          | exact ⟨rfl, jz_Rel_p hRel0 hS5⟩
                          | (exfalso; omega)
                          | (exfalso; simp (disch := omega) only [Int32.lt_iff_toInt_lt, Int32.le_iff_toInt_le, ← Int32.toInt_inj, Int32.reduceToInt, nI_toInt] at c1 c4 c3JVcanBeAimedAt c8 c22 m70; done)
                          | (exfalso; simp (disch := omega) only [Int32.lt_iff_toInt_lt, Int32.le_iff_toInt_le, ← Int32.toInt_inj, Int32.reduceToInt, nI_toInt] at c1 c4 c3JVcanBeAimedAt c8 c22 m70; omega)
                    · refine jr_ic rfl ?_
                      refine jr_iret rfl rfl (Nat.zero_le _) (Nat.zero_le _) ?_
                      first
                        | exact absurd m8 (by assumption)
                        | exact absurd (by assumption) m8
                        | (exfalso; omega)
              · refine jr_aload rfl rfl ?_
                refine jr_getR rfl rfl rfl rfl (Or.inl rfl) ?_
                refine jr_iload rfl rfl ?_
                refine jr_iload rfl rfl ?_
                refine jr_cv2 (mc' := 0) (ms' := 0) rfl jm_Sway_asked_n jm_Sway_asked_f rfl rfl rfl rfl rfl rfl rfl (Nat.zero_le _) (Nat.zero_le _) ?_
                refine ev_asked hw hA hR hmo hS4 (by omega) (fun S6 f6 => ?_)
                refine jr_goto rfl ?_
                refine jr_iret rfl rfl (Nat.zero_le _) (Nat.zero_le _) ?_
                show jx_W (jm_MD_bribe, d + 40, 0, 0, false, 1, _) _ 0 0 0 [some _, some _, some _, none, none, none, none, none] [] _
                refine jr_iload rfl rfl ?_
                refine jr_ic rfl ?_
                refine jr_ic rfl ?_
                refine jr_cs3 (mc' := 0) (ms' := 0) rfl jm_MD_isIn_n jm_MD_isIn_f rfl rfl rfl rfl rfl (Nat.zero_le _) (Nat.zero_le _) ?_
                show jx_W (jm_MD_isIn, _, _, _, _, _, _) _ 0 0 0 [some _, some _, some _] [] _
                refine jr_iload rfl rfl ?_
                refine jr_iload rfl rfl ?_
                refine jr_icmp_lt rfl (fun m2MDisIn => ?_) (fun m2MDisIn => ?_)
                · refine jr_ic rfl ?_
                  refine jr_zret rfl rfl rfl (Nat.zero_le _) (Nat.zero_le _) ?_
                  refine jr_if_eq rfl (fun _ => ?_) (fun z => absurd (by decide) z)
                  refine jr_ic rfl ?_
                  refine jr_iret rfl rfl (Nat.zero_le _) (Nat.zero_le _) ?_
                  first
                    | (exfalso; omega)
                    | (exfalso; simp (disch := omega) only [Int32.lt_iff_toInt_lt, Int32.le_iff_toInt_le, ← Int32.toInt_inj, Int32.reduceToInt, nI_toInt] at c1 c4 c3JVcanBeAimedAt c8 c22 m2MDisIn; done)
                    | (exfalso; simp (disch := omega) only [Int32.lt_iff_toInt_lt, Int32.le_iff_toInt_le, ← Int32.toInt_inj, Int32.reduceToInt, nI_toInt] at c1 c4 c3JVcanBeAimedAt c8 c22 m2MDisIn; omega)
                · refine jr_iload rfl rfl ?_
                  refine jr_iload rfl rfl ?_
                  refine jr_icmp_gt rfl (fun m5MDisIn => ?_) (fun m5MDisIn => ?_)
                  · refine jr_ic rfl ?_
                    refine jr_zret rfl rfl rfl (Nat.zero_le _) (Nat.zero_le _) ?_
                    refine jr_if_eq rfl (fun _ => ?_) (fun z => absurd (by decide) z)
                    refine jr_ic rfl ?_
                    refine jr_iret rfl rfl (Nat.zero_le _) (Nat.zero_le _) ?_
                    first
                      | (exfalso; omega)
                      | (exfalso; simp (disch := omega) only [Int32.lt_iff_toInt_lt, Int32.le_iff_toInt_le, ← Int32.toInt_inj, Int32.reduceToInt, nI_toInt] at c1 c4 c3JVcanBeAimedAt c8 c22 m2MDisIn m5MDisIn; done)
                      | (exfalso; simp (disch := omega) only [Int32.lt_iff_toInt_lt, Int32.le_iff_toInt_le, ← Int32.toInt_inj, Int32.reduceToInt, nI_toInt] at c1 c4 c3JVcanBeAimedAt c8 c22 m2MDisIn m5MDisIn; omega)
                  · refine jr_ic rfl ?_
                    refine jr_goto rfl ?_
                    refine jr_zret rfl rfl rfl (Nat.zero_le _) (Nat.zero_le _) ?_
                    refine jr_if_eq rfl (fun z => absurd z (by decide)) (fun _ => ?_)
                    refine jr_aload rfl rfl ?_
                    refine jr_iload rfl rfl ?_
                    refine jr_cv1 (mc' := 0) (ms' := 0) rfl jm_MD_canTurnTo_n jm_MD_canTurnTo_f rfl rfl rfl rfl rfl rfl rfl (Nat.zero_le _) (Nat.zero_le _) ?_
                    refine eB_canT hw hmo (by omega) (fun S2 hS2 hM2 hV2 => ?_)
                    refine jr_if_ne rfl (fun m8 => ?_) (fun m8 => ?_)
                    · refine jr_ic rfl ?_
                      refine jr_ist3 rfl rfl ?_
                      refine jr_ic rfl ?_
                      refine jr_ist4 rfl rfl ?_
                      refine jr_ic rfl ?_
                      refine jr_ist5 rfl rfl ?_
                      refine lp_MD_bribe 0 none 0 _ _ hw hS2 hmo (by omega) hM2 (fun p hp => (hV2 p hp).1) (fun p hp => (hV2 p hp).2) (Nat.zero_le _) (fun q hq => by cases hq) (fun q hq => by cases hq) (fun S5 s' L' y6 y7 hS5 hL5 => ?_)
                      rw [Nat.sub_zero, hcs] at hL5 ⊢
                      refine jr_iload rfl rfl ?_
                      refine jr_if_lt rfl (fun z => absurd z (nI_pos (by omega))) (fun _ => ?_)
                      refine jr_iload rfl rfl ?_
                      refine jr_ic rfl ?_
                      refine jr_icmp_ne rfl (fun m70 => ?_) (fun m70 => ?_)
                      · refine jr_iload rfl rfl ?_
                        refine jr_iret rfl rfl (Nat.zero_le _) (Nat.zero_le _) ?_
                        first
                          | (have e5 := hL5 q rfl; subst e5; exact ⟨rfl, jz_Rel_p hRel0 hS5⟩)
                          | (exfalso; omega)
                          | (exfalso; simp (disch := omega) only [Int32.lt_iff_toInt_lt, Int32.le_iff_toInt_le, ← Int32.toInt_inj, Int32.reduceToInt, nI_toInt] at c1 c4 c3JVcanBeAimedAt c8 c22 m70; done)
                          | (exfalso; simp (disch := omega) only [Int32.lt_iff_toInt_lt, Int32.le_iff_toInt_le, ← Int32.toInt_inj, Int32.reduceToInt, nI_toInt] at c1 c4 c3JVcanBeAimedAt c8 c22 m70; omega)
                      · refine jr_iload rfl rfl ?_
                        refine jr_goto rfl ?_
                        refine jr_iret rfl rfl (Nat.zero_le _) (Nat.zero_le _) ?_
                        first
                          | (have e5 := hL5 q rfl; subst e5; exact ⟨rfl, jz_Rel_p hRel0 hS5⟩)
                          | (exfalso; omega)
                          | (exfalso; simp (disch := omega) only [Int32.lt_iff_toInt_lt, Int32.le_iff_toInt_le, ← Int32.toInt_inj, Int32.reduceToInt, nI_toInt] at c1 c4 c3JVcanBeAimedAt c8 c22 m70; done)
                          | (exfalso; simp (disch := omega) only [Int32.lt_iff_toInt_lt, Int32.le_iff_toInt_le, ← Int32.toInt_inj, Int32.reduceToInt, nI_toInt] at c1 c4 c3JVcanBeAimedAt c8 c22 m70; omega)
                    · refine jr_ic rfl ?_
                      refine jr_iret rfl rfl (Nat.zero_le _) (Nat.zero_le _) ?_
                      first
                        | exact absurd m8 (by assumption)
                        | exact absurd (by assumption) m8
                        | (exfalso; omega)
          · refine jr_ic rfl ?_
            refine jr_iret rfl rfl (Nat.zero_le _) (Nat.zero_le _) ?_
            show jx_W (jm_MD_bribe, d + 40, 0, 0, false, 1, _) _ 0 0 0 [some _, some _, some _, none, none, none, none, none] [] _
            refine jr_iload rfl rfl ?_
            refine jr_ic rfl ?_
            refine jr_ic rfl ?_
            refine jr_cs3 (mc' := 0) (ms' := 0) rfl jm_MD_isIn_n jm_MD_isIn_f rfl rfl rfl rfl rfl (Nat.zero_le _) (Nat.zero_le _) ?_
            show jx_W (jm_MD_isIn, _, _, _, _, _, _) _ 0 0 0 [some _, some _, some _] [] _
            refine jr_iload rfl rfl ?_
            refine jr_iload rfl rfl ?_
            refine jr_icmp_lt rfl (fun m2MDisIn => ?_) (fun m2MDisIn => ?_)
            · refine jr_ic rfl ?_
              refine jr_zret rfl rfl rfl (Nat.zero_le _) (Nat.zero_le _) ?_
              refine jr_if_eq rfl (fun _ => ?_) (fun z => absurd (by decide) z)
              refine jr_ic rfl ?_
              refine jr_iret rfl rfl (Nat.zero_le _) (Nat.zero_le _) ?_
              first
                | (have q := jz_Rel_p (S := S1) (k := 0 + 1) (S' := fun x => jh_I hm x 0) hRel0 (fun _ _ => rfl); rw [jS_self] at q; exact ⟨rfl, q⟩)
                | exact ⟨rfl, (jz_Rel_p hRel0 hS3)⟩
                | exact ⟨rfl, (jz_Rel_p hRel0 hS2)⟩
                | exact ⟨rfl, hRel0⟩
                | (exfalso; omega)
                | (exfalso; simp (disch := omega) only [Int32.lt_iff_toInt_lt, Int32.le_iff_toInt_le, ← Int32.toInt_inj, Int32.reduceToInt, nI_toInt] at c1 c4 c3JVcanBeAimedAt c8 m2MDisIn; done)
                | (exfalso; simp (disch := omega) only [Int32.lt_iff_toInt_lt, Int32.le_iff_toInt_le, ← Int32.toInt_inj, Int32.reduceToInt, nI_toInt] at c1 c4 c3JVcanBeAimedAt c8 m2MDisIn; omega)
            · refine jr_iload rfl rfl ?_
              refine jr_iload rfl rfl ?_
              refine jr_icmp_gt rfl (fun m5MDisIn => ?_) (fun m5MDisIn => ?_)
              · refine jr_ic rfl ?_
                refine jr_zret rfl rfl rfl (Nat.zero_le _) (Nat.zero_le _) ?_
                refine jr_if_eq rfl (fun _ => ?_) (fun z => absurd (by decide) z)
                refine jr_ic rfl ?_
                refine jr_iret rfl rfl (Nat.zero_le _) (Nat.zero_le _) ?_
                first
                  | (have q := jz_Rel_p (S := S1) (k := 0 + 1) (S' := fun x => jh_I hm x 0) hRel0 (fun _ _ => rfl); rw [jS_self] at q; exact ⟨rfl, q⟩)
                  | exact ⟨rfl, (jz_Rel_p hRel0 hS3)⟩
                  | exact ⟨rfl, (jz_Rel_p hRel0 hS2)⟩
                  | exact ⟨rfl, hRel0⟩
                  | (exfalso; omega)
                  | (exfalso; simp (disch := omega) only [Int32.lt_iff_toInt_lt, Int32.le_iff_toInt_le, ← Int32.toInt_inj, Int32.reduceToInt, nI_toInt] at c1 c4 c3JVcanBeAimedAt c8 m2MDisIn m5MDisIn; done)
                  | (exfalso; simp (disch := omega) only [Int32.lt_iff_toInt_lt, Int32.le_iff_toInt_le, ← Int32.toInt_inj, Int32.reduceToInt, nI_toInt] at c1 c4 c3JVcanBeAimedAt c8 m2MDisIn m5MDisIn; omega)
              · refine jr_ic rfl ?_
                refine jr_goto rfl ?_
                refine jr_zret rfl rfl rfl (Nat.zero_le _) (Nat.zero_le _) ?_
                refine jr_if_eq rfl (fun z => absurd z (by decide)) (fun _ => ?_)
                refine jr_aload rfl rfl ?_
                refine jr_iload rfl rfl ?_
                refine jr_cv1 (mc' := 0) (ms' := 0) rfl jm_MD_canTurnTo_n jm_MD_canTurnTo_f rfl rfl rfl rfl rfl rfl rfl (Nat.zero_le _) (Nat.zero_le _) ?_
                refine eB_canT hw hmo (by omega) (fun S2 hS2 hM2 hV2 => ?_)
                refine jr_if_ne rfl (fun m8 => ?_) (fun m8 => ?_)
                · refine jr_ic rfl ?_
                  refine jr_ist3 rfl rfl ?_
                  refine jr_ic rfl ?_
                  refine jr_ist4 rfl rfl ?_
                  refine jr_ic rfl ?_
                  refine jr_ist5 rfl rfl ?_
                  first
                    | (exfalso; omega)
                    | (exfalso; simp (disch := omega) only [Int32.lt_iff_toInt_lt, Int32.le_iff_toInt_le, ← Int32.toInt_inj, Int32.reduceToInt, nI_toInt] at c1 c4 c3JVcanBeAimedAt c8 m2MDisIn m5MDisIn m8; done)
                    | (exfalso; simp (disch := omega) only [Int32.lt_iff_toInt_lt, Int32.le_iff_toInt_le, ← Int32.toInt_inj, Int32.reduceToInt, nI_toInt] at c1 c4 c3JVcanBeAimedAt c8 m2MDisIn m5MDisIn m8; omega)
                · refine jr_ic rfl ?_
                  refine jr_iret rfl rfl (Nat.zero_le _) (Nat.zero_le _) ?_
                  first
                    | (have q := jz_Rel_p (S := S1) (k := 0 + 1) (S' := fun x => jh_I hm x 0) hRel0 (fun _ _ => rfl); rw [jS_self] at q; exact ⟨rfl, q⟩)
                    | exact ⟨rfl, (jz_Rel_p hRel0 hS3)⟩
                    | exact ⟨rfl, (jz_Rel_p hRel0 hS2)⟩
                    | exact ⟨rfl, hRel0⟩
                    | (exfalso; omega)
                    | (exfalso; simp (disch := omega) only [Int32.lt_iff_toInt_lt, Int32.le_iff_toInt_le, ← Int32.toInt_inj, Int32.reduceToInt, nI_toInt] at c1 c4 c3JVcanBeAimedAt c8 m2MDisIn m5MDisIn m8; done)
                    | (exfalso; simp (disch := omega) only [Int32.lt_iff_toInt_lt, Int32.le_iff_toInt_le, ← Int32.toInt_inj, Int32.reduceToInt, nI_toInt] at c1 c4 c3JVcanBeAimedAt c8 m2MDisIn m5MDisIn m8; omega)
        · refine jr_ic rfl ?_
          refine jr_zret rfl rfl rfl (Nat.zero_le _) (Nat.zero_le _) ?_
          refine jr_if_ne rfl (fun z => absurd (by decide) z) (fun _ => ?_)
          refine jr_ic rfl ?_
          refine jr_iret rfl rfl (Nat.zero_le _) (Nat.zero_le _) ?_
          show jx_W (jm_MD_bribe, d + 40, 0, 0, false, 1, _) _ 0 0 0 [some _, some _, some _, none, none, none, none, none] [] _
          refine jr_iload rfl rfl ?_
          refine jr_ic rfl ?_
          refine jr_ic rfl ?_
          refine jr_cs3 (mc' := 0) (ms' := 0) rfl jm_MD_isIn_n jm_MD_isIn_f rfl rfl rfl rfl rfl (Nat.zero_le _) (Nat.zero_le _) ?_
          show jx_W (jm_MD_isIn, _, _, _, _, _, _) _ 0 0 0 [some _, some _, some _] [] _
          refine jr_iload rfl rfl ?_
          refine jr_iload rfl rfl ?_
          refine jr_icmp_lt rfl (fun m2MDisIn => ?_) (fun m2MDisIn => ?_)
          · refine jr_ic rfl ?_
            refine jr_zret rfl rfl rfl (Nat.zero_le _) (Nat.zero_le _) ?_
            refine jr_if_eq rfl (fun _ => ?_) (fun z => absurd (by decide) z)
            refine jr_ic rfl ?_
            refine jr_iret rfl rfl (Nat.zero_le _) (Nat.zero_le _) ?_
            first
              | (have q := jz_Rel_p (S := S1) (k := 0 + 1) (S' := fun x => jh_I hm x 0) hRel0 (fun _ _ => rfl); rw [jS_self] at q; exact ⟨rfl, q⟩)
              | exact ⟨rfl, (jz_Rel_p hRel0 hS3)⟩
              | exact ⟨rfl, (jz_Rel_p hRel0 hS2)⟩
              | exact ⟨rfl, hRel0⟩
              | (exfalso; omega)
              | (exfalso; simp (disch := omega) only [Int32.lt_iff_toInt_lt, Int32.le_iff_toInt_le, ← Int32.toInt_inj, Int32.reduceToInt, nI_toInt] at c1 c4 c3JVcanBeAimedAt m2MDisIn; done)
              | (exfalso; simp (disch := omega) only [Int32.lt_iff_toInt_lt, Int32.le_iff_toInt_le, ← Int32.toInt_inj, Int32.reduceToInt, nI_toInt] at c1 c4 c3JVcanBeAimedAt m2MDisIn; omega)
          · refine jr_iload rfl rfl ?_
            refine jr_iload rfl rfl ?_
            refine jr_icmp_gt rfl (fun m5MDisIn => ?_) (fun m5MDisIn => ?_)
            · refine jr_ic rfl ?_
              refine jr_zret rfl rfl rfl (Nat.zero_le _) (Nat.zero_le _) ?_
              refine jr_if_eq rfl (fun _ => ?_) (fun z => absurd (by decide) z)
              refine jr_ic rfl ?_
              refine jr_iret rfl rfl (Nat.zero_le _) (Nat.zero_le _) ?_
              first
                | (have q := jz_Rel_p (S := S1) (k := 0 + 1) (S' := fun x => jh_I hm x 0) hRel0 (fun _ _ => rfl); rw [jS_self] at q; exact ⟨rfl, q⟩)
                | exact ⟨rfl, (jz_Rel_p hRel0 hS3)⟩
                | exact ⟨rfl, (jz_Rel_p hRel0 hS2)⟩
                | exact ⟨rfl, hRel0⟩
                | (exfalso; omega)
                | (exfalso; simp (disch := omega) only [Int32.lt_iff_toInt_lt, Int32.le_iff_toInt_le, ← Int32.toInt_inj, Int32.reduceToInt, nI_toInt] at c1 c4 c3JVcanBeAimedAt m2MDisIn m5MDisIn; done)
                | (exfalso; simp (disch := omega) only [Int32.lt_iff_toInt_lt, Int32.le_iff_toInt_le, ← Int32.toInt_inj, Int32.reduceToInt, nI_toInt] at c1 c4 c3JVcanBeAimedAt m2MDisIn m5MDisIn; omega)
            · refine jr_ic rfl ?_
              refine jr_goto rfl ?_
              refine jr_zret rfl rfl rfl (Nat.zero_le _) (Nat.zero_le _) ?_
              refine jr_if_eq rfl (fun z => absurd z (by decide)) (fun _ => ?_)
              refine jr_aload rfl rfl ?_
              refine jr_iload rfl rfl ?_
              refine jr_cv1 (mc' := 0) (ms' := 0) rfl jm_MD_canTurnTo_n jm_MD_canTurnTo_f rfl rfl rfl rfl rfl rfl rfl (Nat.zero_le _) (Nat.zero_le _) ?_
              refine eB_canT hw hmo (by omega) (fun S2 hS2 hM2 hV2 => ?_)
              refine jr_if_ne rfl (fun m8 => ?_) (fun m8 => ?_)
              · refine jr_ic rfl ?_
                refine jr_ist3 rfl rfl ?_
                refine jr_ic rfl ?_
                refine jr_ist4 rfl rfl ?_
                refine jr_ic rfl ?_
                refine jr_ist5 rfl rfl ?_
                first
                  | (exfalso; omega)
                  | (exfalso; simp (disch := omega) only [Int32.lt_iff_toInt_lt, Int32.le_iff_toInt_le, ← Int32.toInt_inj, Int32.reduceToInt, nI_toInt] at c1 c4 c3JVcanBeAimedAt m2MDisIn m5MDisIn m8; done)
                  | (exfalso; simp (disch := omega) only [Int32.lt_iff_toInt_lt, Int32.le_iff_toInt_le, ← Int32.toInt_inj, Int32.reduceToInt, nI_toInt] at c1 c4 c3JVcanBeAimedAt m2MDisIn m5MDisIn m8; omega)
              · refine jr_ic rfl ?_
                refine jr_iret rfl rfl (Nat.zero_le _) (Nat.zero_le _) ?_
                first
                  | (have q := jz_Rel_p (S := S1) (k := 0 + 1) (S' := fun x => jh_I hm x 0) hRel0 (fun _ _ => rfl); rw [jS_self] at q; exact ⟨rfl, q⟩)
                  | exact ⟨rfl, (jz_Rel_p hRel0 hS3)⟩
                  | exact ⟨rfl, (jz_Rel_p hRel0 hS2)⟩
                  | exact ⟨rfl, hRel0⟩
                  | (exfalso; omega)
                  | (exfalso; simp (disch := omega) only [Int32.lt_iff_toInt_lt, Int32.le_iff_toInt_le, ← Int32.toInt_inj, Int32.reduceToInt, nI_toInt] at c1 c4 c3JVcanBeAimedAt m2MDisIn m5MDisIn m8; done)
                  | (exfalso; simp (disch := omega) only [Int32.lt_iff_toInt_lt, Int32.le_iff_toInt_le, ← Int32.toInt_inj, Int32.reduceToInt, nI_toInt] at c1 c4 c3JVcanBeAimedAt m2MDisIn m5MDisIn m8; omega)
  · have hn1 : 0 < jz_nm hm b := by
      rcases Nat.eq_zero_or_pos (jz_nm hm b) with e | e
      · rw [e] at hnm; exact absurd hnm.1 hmo
      · exact e
    show jx_W (jm_JV_bribe, d + 40, 0, 0, false, 0, _) _ 0 0 0 [some (jv_r 10 0), some (jv_i x), some (jv_i y), none] [] _
    refine jr_iload rfl rfl ?_
    refine jr_if_lt rfl (fun c1 => ?_) (fun c1 => ?_)
    · refine jr_ic rfl ?_
      refine jr_iret rfl rfl (Nat.zero_le _) (Nat.zero_le _) ?_
      show jx_W (jm_MD_bribe, d + 40, 0, 0, false, 1, _) _ 0 0 0 [some _, some _, some _, none, none, none, none, none] [] _
      refine jr_iload rfl rfl ?_
      refine jr_ic rfl ?_
      refine jr_ic rfl ?_
      refine jr_cs3 (mc' := 0) (ms' := 0) rfl jm_MD_isIn_n jm_MD_isIn_f rfl rfl rfl rfl rfl (Nat.zero_le _) (Nat.zero_le _) ?_
      show jx_W (jm_MD_isIn, _, _, _, _, _, _) _ 0 0 0 [some _, some _, some _] [] _
      refine jr_iload rfl rfl ?_
      refine jr_iload rfl rfl ?_
      refine jr_icmp_lt rfl (fun m2MDisIn => ?_) (fun m2MDisIn => ?_)
      · refine jr_ic rfl ?_
        refine jr_zret rfl rfl rfl (Nat.zero_le _) (Nat.zero_le _) ?_
        refine jr_if_eq rfl (fun _ => ?_) (fun z => absurd (by decide) z)
        refine jr_ic rfl ?_
        refine jr_iret rfl rfl (Nat.zero_le _) (Nat.zero_le _) ?_
        first
          | (have q := jz_Rel_p (S := S1) (k := 0 + 1) (S' := fun x => jh_I hm x 0) hRel0 (fun _ _ => rfl); rw [jS_self] at q; exact ⟨rfl, q⟩)
          | exact ⟨rfl, (jz_Rel_p hRel0 hS3)⟩
          | exact ⟨rfl, (jz_Rel_p hRel0 hS2)⟩
          | exact ⟨rfl, hRel0⟩
          | (exfalso; omega)
          | (exfalso; simp (disch := omega) only [Int32.lt_iff_toInt_lt, Int32.le_iff_toInt_le, ← Int32.toInt_inj, Int32.reduceToInt, nI_toInt] at c1 m2MDisIn; done)
          | (exfalso; simp (disch := omega) only [Int32.lt_iff_toInt_lt, Int32.le_iff_toInt_le, ← Int32.toInt_inj, Int32.reduceToInt, nI_toInt] at c1 m2MDisIn; omega)
      · refine jr_iload rfl rfl ?_
        refine jr_iload rfl rfl ?_
        refine jr_icmp_gt rfl (fun m5MDisIn => ?_) (fun m5MDisIn => ?_)
        · refine jr_ic rfl ?_
          refine jr_zret rfl rfl rfl (Nat.zero_le _) (Nat.zero_le _) ?_
          refine jr_if_eq rfl (fun _ => ?_) (fun z => absurd (by decide) z)
          refine jr_ic rfl ?_
          refine jr_iret rfl rfl (Nat.zero_le _) (Nat.zero_le _) ?_
          first
            | (have q := jz_Rel_p (S := S1) (k := 0 + 1) (S' := fun x => jh_I hm x 0) hRel0 (fun _ _ => rfl); rw [jS_self] at q; exact ⟨rfl, q⟩)
            | exact ⟨rfl, (jz_Rel_p hRel0 hS3)⟩
            | exact ⟨rfl, (jz_Rel_p hRel0 hS2)⟩
            | exact ⟨rfl, hRel0⟩
            | (exfalso; omega)
            | (exfalso; simp (disch := omega) only [Int32.lt_iff_toInt_lt, Int32.le_iff_toInt_le, ← Int32.toInt_inj, Int32.reduceToInt, nI_toInt] at c1 m2MDisIn m5MDisIn; done)
            | (exfalso; simp (disch := omega) only [Int32.lt_iff_toInt_lt, Int32.le_iff_toInt_le, ← Int32.toInt_inj, Int32.reduceToInt, nI_toInt] at c1 m2MDisIn m5MDisIn; omega)
        · refine jr_ic rfl ?_
          refine jr_goto rfl ?_
          refine jr_zret rfl rfl rfl (Nat.zero_le _) (Nat.zero_le _) ?_
          refine jr_if_eq rfl (fun z => absurd z (by decide)) (fun _ => ?_)
          refine jr_aload rfl rfl ?_
          refine jr_iload rfl rfl ?_
          refine jr_cv1 (mc' := 0) (ms' := 0) rfl jm_MD_canTurnTo_n jm_MD_canTurnTo_f rfl rfl rfl rfl rfl rfl rfl (Nat.zero_le _) (Nat.zero_le _) ?_
          show jx_W (jm_MD_canTurnTo, _, _, _, _, _, _) _ 0 0 0 [some _, some _, none] [] _
          refine jr_aload rfl rfl ?_
          refine jr_cv0 (mc' := 0) (ms' := 0) rfl jm_MD_hasMonths_n jm_MD_hasMonths_f rfl rfl rfl rfl rfl rfl rfl (Nat.zero_le _) (Nat.zero_le _) ?_
          show jx_W (jm_MD_hasMonths, _, _, _, _, _, _) _ 0 0 0 [some _] [] _
          refine jr_aload rfl rfl ?_
          refine jr_getR rfl rfl rfl rfl (Or.inl rfl) ?_
          refine jr_aload rfl rfl ?_
          refine jr_getI rfl rfl ?_
          refine jr_iald (len := 2) rfl rfl hw.1 (by omega) ?_
          refine jr_if_le rfl (fun m5MDhasMonths => ?_) (fun m5MDhasMonths => ?_)
          · refine jr_ic rfl ?_
            refine jr_zret rfl rfl rfl (Nat.zero_le _) (Nat.zero_le _) ?_
            refine jr_if_eq rfl (fun _ => ?_) (fun z => absurd (by decide) z)
            refine jr_ic rfl ?_
            refine jr_zret rfl rfl rfl (Nat.zero_le _) (Nat.zero_le _) ?_
            refine jr_if_ne rfl (fun z => absurd (by decide) z) (fun _ => ?_)
            refine jr_ic rfl ?_
            refine jr_iret rfl rfl (Nat.zero_le _) (Nat.zero_le _) ?_
            first
              | (have q := jz_Rel_p (S := S1) (k := 0 + 1) (S' := fun x => jh_I hm x 0) hRel0 (fun _ _ => rfl); rw [jS_self] at q; exact ⟨rfl, q⟩)
              | exact ⟨rfl, (jz_Rel_p hRel0 hS3)⟩
              | exact ⟨rfl, (jz_Rel_p hRel0 hS2)⟩
              | exact ⟨rfl, hRel0⟩
              | (exfalso; omega)
              | (exfalso; simp (disch := omega) only [Int32.lt_iff_toInt_lt, Int32.le_iff_toInt_le, ← Int32.toInt_inj, Int32.reduceToInt, nI_toInt] at c1 m2MDisIn m5MDisIn m5MDhasMonths; done)
              | (exfalso; simp (disch := omega) only [Int32.lt_iff_toInt_lt, Int32.le_iff_toInt_le, ← Int32.toInt_inj, Int32.reduceToInt, nI_toInt] at c1 m2MDisIn m5MDisIn m5MDhasMonths; omega)
          · refine jr_ic rfl ?_
            refine jr_goto rfl ?_
            refine jr_zret rfl rfl rfl (Nat.zero_le _) (Nat.zero_le _) ?_
            refine jr_if_eq rfl (fun z => absurd z (by decide)) (fun _ => ?_)
            refine jr_iload rfl rfl ?_
            refine jr_ic rfl ?_
            refine jr_ic rfl ?_
            refine jr_cs3 (mc' := 0) (ms' := 0) rfl jm_MD_isIn_n jm_MD_isIn_f rfl rfl rfl rfl rfl (Nat.zero_le _) (Nat.zero_le _) ?_
            show jx_W (jm_MD_isIn, _, _, _, _, _, _) _ 0 0 0 [some _, some _, some _] [] _
            refine jr_iload rfl rfl ?_
            refine jr_iload rfl rfl ?_
            refine jr_icmp_lt rfl (fun m2MDisIn_2 => ?_) (fun m2MDisIn_2 => ?_)
            · refine jr_ic rfl ?_
              refine jr_zret rfl rfl rfl (Nat.zero_le _) (Nat.zero_le _) ?_
              refine jr_if_ne rfl (fun z => absurd (by decide) z) (fun _ => ?_)
              refine jr_ic rfl ?_
              refine jr_zret rfl rfl rfl (Nat.zero_le _) (Nat.zero_le _) ?_
              refine jr_if_ne rfl (fun z => absurd (by decide) z) (fun _ => ?_)
              refine jr_ic rfl ?_
              refine jr_iret rfl rfl (Nat.zero_le _) (Nat.zero_le _) ?_
              first
                | (have q := jz_Rel_p (S := S1) (k := 0 + 1) (S' := fun x => jh_I hm x 0) hRel0 (fun _ _ => rfl); rw [jS_self] at q; exact ⟨rfl, q⟩)
                | exact ⟨rfl, (jz_Rel_p hRel0 hS3)⟩
                | exact ⟨rfl, (jz_Rel_p hRel0 hS2)⟩
                | exact ⟨rfl, hRel0⟩
                | (exfalso; omega)
                | (exfalso; simp (disch := omega) only [Int32.lt_iff_toInt_lt, Int32.le_iff_toInt_le, ← Int32.toInt_inj, Int32.reduceToInt, nI_toInt] at c1 m2MDisIn m5MDisIn m5MDhasMonths m2MDisIn_2; done)
                | (exfalso; simp (disch := omega) only [Int32.lt_iff_toInt_lt, Int32.le_iff_toInt_le, ← Int32.toInt_inj, Int32.reduceToInt, nI_toInt] at c1 m2MDisIn m5MDisIn m5MDhasMonths m2MDisIn_2; omega)
            · refine jr_iload rfl rfl ?_
              refine jr_iload rfl rfl ?_
              refine jr_icmp_gt rfl (fun m5MDisIn_2 => ?_) (fun m5MDisIn_2 => ?_)
              · refine jr_ic rfl ?_
                refine jr_zret rfl rfl rfl (Nat.zero_le _) (Nat.zero_le _) ?_
                refine jr_if_ne rfl (fun z => absurd (by decide) z) (fun _ => ?_)
                refine jr_ic rfl ?_
                refine jr_zret rfl rfl rfl (Nat.zero_le _) (Nat.zero_le _) ?_
                refine jr_if_ne rfl (fun z => absurd (by decide) z) (fun _ => ?_)
                refine jr_ic rfl ?_
                refine jr_iret rfl rfl (Nat.zero_le _) (Nat.zero_le _) ?_
                first
                  | (have q := jz_Rel_p (S := S1) (k := 0 + 1) (S' := fun x => jh_I hm x 0) hRel0 (fun _ _ => rfl); rw [jS_self] at q; exact ⟨rfl, q⟩)
                  | exact ⟨rfl, (jz_Rel_p hRel0 hS3)⟩
                  | exact ⟨rfl, (jz_Rel_p hRel0 hS2)⟩
                  | exact ⟨rfl, hRel0⟩
                  | (exfalso; omega)
                  | (exfalso; simp (disch := omega) only [Int32.lt_iff_toInt_lt, Int32.le_iff_toInt_le, ← Int32.toInt_inj, Int32.reduceToInt, nI_toInt] at c1 m2MDisIn m5MDisIn m5MDhasMonths m2MDisIn_2 m5MDisIn_2; done)
                  | (exfalso; simp (disch := omega) only [Int32.lt_iff_toInt_lt, Int32.le_iff_toInt_le, ← Int32.toInt_inj, Int32.reduceToInt, nI_toInt] at c1 m2MDisIn m5MDisIn m5MDhasMonths m2MDisIn_2 m5MDisIn_2; omega)
              · refine jr_ic rfl ?_
                refine jr_goto rfl ?_
                refine jr_zret rfl rfl rfl (Nat.zero_le _) (Nat.zero_le _) ?_
                refine jr_if_ne rfl (fun _ => ?_) (fun z => absurd z (by decide))
                refine jr_aload rfl rfl ?_
                refine jr_cv0 (mc' := 0) (ms' := 0) rfl jm_MD_layVotes_n jm_MD_layVotes_f rfl rfl rfl rfl rfl rfl rfl (Nat.zero_le _) (Nat.zero_le _) ?_
                first
                  | (exfalso; omega)
                  | (exfalso; simp (disch := omega) only [Int32.lt_iff_toInt_lt, Int32.le_iff_toInt_le, ← Int32.toInt_inj, Int32.reduceToInt, nI_toInt] at c1 m2MDisIn m5MDisIn m5MDhasMonths m2MDisIn_2 m5MDisIn_2; done)
                  | (exfalso; simp (disch := omega) only [Int32.lt_iff_toInt_lt, Int32.le_iff_toInt_le, ← Int32.toInt_inj, Int32.reduceToInt, nI_toInt] at c1 m2MDisIn m5MDisIn m5MDhasMonths m2MDisIn_2 m5MDisIn_2; omega)
    · refine jr_iload rfl rfl ?_
      refine jr_ic rfl ?_
      refine jr_icmp_gt rfl (fun c4 => ?_) (fun c4 => ?_)
      · refine jr_ic rfl ?_
        refine jr_iret rfl rfl (Nat.zero_le _) (Nat.zero_le _) ?_
        show jx_W (jm_MD_bribe, d + 40, 0, 0, false, 1, _) _ 0 0 0 [some _, some _, some _, none, none, none, none, none] [] _
        refine jr_iload rfl rfl ?_
        refine jr_ic rfl ?_
        refine jr_ic rfl ?_
        refine jr_cs3 (mc' := 0) (ms' := 0) rfl jm_MD_isIn_n jm_MD_isIn_f rfl rfl rfl rfl rfl (Nat.zero_le _) (Nat.zero_le _) ?_
        show jx_W (jm_MD_isIn, _, _, _, _, _, _) _ 0 0 0 [some _, some _, some _] [] _
        refine jr_iload rfl rfl ?_
        refine jr_iload rfl rfl ?_
        refine jr_icmp_lt rfl (fun m2MDisIn => ?_) (fun m2MDisIn => ?_)
        · refine jr_ic rfl ?_
          refine jr_zret rfl rfl rfl (Nat.zero_le _) (Nat.zero_le _) ?_
          refine jr_if_eq rfl (fun _ => ?_) (fun z => absurd (by decide) z)
          refine jr_ic rfl ?_
          refine jr_iret rfl rfl (Nat.zero_le _) (Nat.zero_le _) ?_
          first
            | (have q := jz_Rel_p (S := S1) (k := 0 + 1) (S' := fun x => jh_I hm x 0) hRel0 (fun _ _ => rfl); rw [jS_self] at q; exact ⟨rfl, q⟩)
            | exact ⟨rfl, (jz_Rel_p hRel0 hS3)⟩
            | exact ⟨rfl, (jz_Rel_p hRel0 hS2)⟩
            | exact ⟨rfl, hRel0⟩
            | (exfalso; omega)
            | (exfalso; simp (disch := omega) only [Int32.lt_iff_toInt_lt, Int32.le_iff_toInt_le, ← Int32.toInt_inj, Int32.reduceToInt, nI_toInt] at c1 c4 m2MDisIn; done)
            | (exfalso; simp (disch := omega) only [Int32.lt_iff_toInt_lt, Int32.le_iff_toInt_le, ← Int32.toInt_inj, Int32.reduceToInt, nI_toInt] at c1 c4 m2MDisIn; omega)
        · refine jr_iload rfl rfl ?_
          refine jr_iload rfl rfl ?_
          refine jr_icmp_gt rfl (fun m5MDisIn => ?_) (fun m5MDisIn => ?_)
          · refine jr_ic rfl ?_
            refine jr_zret rfl rfl rfl (Nat.zero_le _) (Nat.zero_le _) ?_
            refine jr_if_eq rfl (fun _ => ?_) (fun z => absurd (by decide) z)
            refine jr_ic rfl ?_
            refine jr_iret rfl rfl (Nat.zero_le _) (Nat.zero_le _) ?_
            first
              | (have q := jz_Rel_p (S := S1) (k := 0 + 1) (S' := fun x => jh_I hm x 0) hRel0 (fun _ _ => rfl); rw [jS_self] at q; exact ⟨rfl, q⟩)
              | exact ⟨rfl, (jz_Rel_p hRel0 hS3)⟩
              | exact ⟨rfl, (jz_Rel_p hRel0 hS2)⟩
              | exact ⟨rfl, hRel0⟩
              | (exfalso; omega)
              | (exfalso; simp (disch := omega) only [Int32.lt_iff_toInt_lt, Int32.le_iff_toInt_le, ← Int32.toInt_inj, Int32.reduceToInt, nI_toInt] at c1 c4 m2MDisIn m5MDisIn; done)
              | (exfalso; simp (disch := omega) only [Int32.lt_iff_toInt_lt, Int32.le_iff_toInt_le, ← Int32.toInt_inj, Int32.reduceToInt, nI_toInt] at c1 c4 m2MDisIn m5MDisIn; omega)
          · refine jr_ic rfl ?_
            refine jr_goto rfl ?_
            refine jr_zret rfl rfl rfl (Nat.zero_le _) (Nat.zero_le _) ?_
            refine jr_if_eq rfl (fun z => absurd z (by decide)) (fun _ => ?_)
            refine jr_aload rfl rfl ?_
            refine jr_iload rfl rfl ?_
            refine jr_cv1 (mc' := 0) (ms' := 0) rfl jm_MD_canTurnTo_n jm_MD_canTurnTo_f rfl rfl rfl rfl rfl rfl rfl (Nat.zero_le _) (Nat.zero_le _) ?_
            show jx_W (jm_MD_canTurnTo, _, _, _, _, _, _) _ 0 0 0 [some _, some _, none] [] _
            refine jr_aload rfl rfl ?_
            refine jr_cv0 (mc' := 0) (ms' := 0) rfl jm_MD_hasMonths_n jm_MD_hasMonths_f rfl rfl rfl rfl rfl rfl rfl (Nat.zero_le _) (Nat.zero_le _) ?_
            show jx_W (jm_MD_hasMonths, _, _, _, _, _, _) _ 0 0 0 [some _] [] _
            refine jr_aload rfl rfl ?_
            refine jr_getR rfl rfl rfl rfl (Or.inl rfl) ?_
            refine jr_aload rfl rfl ?_
            refine jr_getI rfl rfl ?_
            refine jr_iald (len := 2) rfl rfl hw.1 (by omega) ?_
            refine jr_if_le rfl (fun m5MDhasMonths => ?_) (fun m5MDhasMonths => ?_)
            · refine jr_ic rfl ?_
              refine jr_zret rfl rfl rfl (Nat.zero_le _) (Nat.zero_le _) ?_
              refine jr_if_eq rfl (fun _ => ?_) (fun z => absurd (by decide) z)
              refine jr_ic rfl ?_
              refine jr_zret rfl rfl rfl (Nat.zero_le _) (Nat.zero_le _) ?_
              refine jr_if_ne rfl (fun z => absurd (by decide) z) (fun _ => ?_)
              refine jr_ic rfl ?_
              refine jr_iret rfl rfl (Nat.zero_le _) (Nat.zero_le _) ?_
              first
                | (have q := jz_Rel_p (S := S1) (k := 0 + 1) (S' := fun x => jh_I hm x 0) hRel0 (fun _ _ => rfl); rw [jS_self] at q; exact ⟨rfl, q⟩)
                | exact ⟨rfl, (jz_Rel_p hRel0 hS3)⟩
                | exact ⟨rfl, (jz_Rel_p hRel0 hS2)⟩
                | exact ⟨rfl, hRel0⟩
                | (exfalso; omega)
                | (exfalso; simp (disch := omega) only [Int32.lt_iff_toInt_lt, Int32.le_iff_toInt_le, ← Int32.toInt_inj, Int32.reduceToInt, nI_toInt] at c1 c4 m2MDisIn m5MDisIn m5MDhasMonths; done)
                | (exfalso; simp (disch := omega) only [Int32.lt_iff_toInt_lt, Int32.le_iff_toInt_le, ← Int32.toInt_inj, Int32.reduceToInt, nI_toInt] at c1 c4 m2MDisIn m5MDisIn m5MDhasMonths; omega)
            · refine jr_ic rfl ?_
              refine jr_goto rfl ?_
              refine jr_zret rfl rfl rfl (Nat.zero_le _) (Nat.zero_le _) ?_
              refine jr_if_eq rfl (fun z => absurd z (by decide)) (fun _ => ?_)
              refine jr_iload rfl rfl ?_
              refine jr_ic rfl ?_
              refine jr_ic rfl ?_
              refine jr_cs3 (mc' := 0) (ms' := 0) rfl jm_MD_isIn_n jm_MD_isIn_f rfl rfl rfl rfl rfl (Nat.zero_le _) (Nat.zero_le _) ?_
              show jx_W (jm_MD_isIn, _, _, _, _, _, _) _ 0 0 0 [some _, some _, some _] [] _
              refine jr_iload rfl rfl ?_
              refine jr_iload rfl rfl ?_
              refine jr_icmp_lt rfl (fun m2MDisIn_2 => ?_) (fun m2MDisIn_2 => ?_)
              · refine jr_ic rfl ?_
                refine jr_zret rfl rfl rfl (Nat.zero_le _) (Nat.zero_le _) ?_
                refine jr_if_ne rfl (fun z => absurd (by decide) z) (fun _ => ?_)
                refine jr_ic rfl ?_
                refine jr_zret rfl rfl rfl (Nat.zero_le _) (Nat.zero_le _) ?_
                refine jr_if_ne rfl (fun z => absurd (by decide) z) (fun _ => ?_)
                refine jr_ic rfl ?_
                refine jr_iret rfl rfl (Nat.zero_le _) (Nat.zero_le _) ?_
                first
                  | (have q := jz_Rel_p (S := S1) (k := 0 + 1) (S' := fun x => jh_I hm x 0) hRel0 (fun _ _ => rfl); rw [jS_self] at q; exact ⟨rfl, q⟩)
                  | exact ⟨rfl, (jz_Rel_p hRel0 hS3)⟩
                  | exact ⟨rfl, (jz_Rel_p hRel0 hS2)⟩
                  | exact ⟨rfl, hRel0⟩
                  | (exfalso; omega)
                  | (exfalso; simp (disch := omega) only [Int32.lt_iff_toInt_lt, Int32.le_iff_toInt_le, ← Int32.toInt_inj, Int32.reduceToInt, nI_toInt] at c1 c4 m2MDisIn m5MDisIn m5MDhasMonths m2MDisIn_2; done)
                  | (exfalso; simp (disch := omega) only [Int32.lt_iff_toInt_lt, Int32.le_iff_toInt_le, ← Int32.toInt_inj, Int32.reduceToInt, nI_toInt] at c1 c4 m2MDisIn m5MDisIn m5MDhasMonths m2MDisIn_2; omega)
              · refine jr_iload rfl rfl ?_
                refine jr_iload rfl rfl ?_
                refine jr_icmp_gt rfl (fun m5MDisIn_2 => ?_) (fun m5MDisIn_2 => ?_)
                · refine jr_ic rfl ?_
                  refine jr_zret rfl rfl rfl (Nat.zero_le _) (Nat.zero_le _) ?_
                  refine jr_if_ne rfl (fun z => absurd (by decide) z) (fun _ => ?_)
                  refine jr_ic rfl ?_
                  refine jr_zret rfl rfl rfl (Nat.zero_le _) (Nat.zero_le _) ?_
                  refine jr_if_ne rfl (fun z => absurd (by decide) z) (fun _ => ?_)
                  refine jr_ic rfl ?_
                  refine jr_iret rfl rfl (Nat.zero_le _) (Nat.zero_le _) ?_
                  first
                    | (have q := jz_Rel_p (S := S1) (k := 0 + 1) (S' := fun x => jh_I hm x 0) hRel0 (fun _ _ => rfl); rw [jS_self] at q; exact ⟨rfl, q⟩)
                    | exact ⟨rfl, (jz_Rel_p hRel0 hS3)⟩
                    | exact ⟨rfl, (jz_Rel_p hRel0 hS2)⟩
                    | exact ⟨rfl, hRel0⟩
                    | (exfalso; omega)
                    | (exfalso; simp (disch := omega) only [Int32.lt_iff_toInt_lt, Int32.le_iff_toInt_le, ← Int32.toInt_inj, Int32.reduceToInt, nI_toInt] at c1 c4 m2MDisIn m5MDisIn m5MDhasMonths m2MDisIn_2 m5MDisIn_2; done)
                    | (exfalso; simp (disch := omega) only [Int32.lt_iff_toInt_lt, Int32.le_iff_toInt_le, ← Int32.toInt_inj, Int32.reduceToInt, nI_toInt] at c1 c4 m2MDisIn m5MDisIn m5MDhasMonths m2MDisIn_2 m5MDisIn_2; omega)
                · refine jr_ic rfl ?_
                  refine jr_goto rfl ?_
                  refine jr_zret rfl rfl rfl (Nat.zero_le _) (Nat.zero_le _) ?_
                  refine jr_if_ne rfl (fun _ => ?_) (fun z => absurd z (by decide))
                  refine jr_aload rfl rfl ?_
                  refine jr_cv0 (mc' := 0) (ms' := 0) rfl jm_MD_layVotes_n jm_MD_layVotes_f rfl rfl rfl rfl rfl rfl rfl (Nat.zero_le _) (Nat.zero_le _) ?_
                  first
                    | (exfalso; omega)
                    | (exfalso; simp (disch := omega) only [Int32.lt_iff_toInt_lt, Int32.le_iff_toInt_le, ← Int32.toInt_inj, Int32.reduceToInt, nI_toInt] at c1 c4 m2MDisIn m5MDisIn m5MDhasMonths m2MDisIn_2 m5MDisIn_2; done)
                    | (exfalso; simp (disch := omega) only [Int32.lt_iff_toInt_lt, Int32.le_iff_toInt_le, ← Int32.toInt_inj, Int32.reduceToInt, nI_toInt] at c1 c4 m2MDisIn m5MDisIn m5MDhasMonths m2MDisIn_2 m5MDisIn_2; omega)
      · refine jr_aload rfl rfl ?_
        refine jr_iload rfl rfl ?_
        refine jr_cv1 (mc' := 0) (ms' := 0) rfl jm_JV_canBeAimedAt_n jm_JV_canBeAimedAt_f rfl rfl rfl rfl rfl rfl rfl (Nat.zero_le _) (Nat.zero_le _) ?_
        show jx_W (jm_JV_canBeAimedAt, _, _, _, _, _, _) _ 0 0 0 [some _, some _] [] _
        refine jr_aload rfl rfl ?_
        refine jr_getM rfl rfl rfl rfl hto ?_
        refine jr_getI rfl rfl ?_
        refine jr_if_ne rfl (fun c3JVcanBeAimedAt => ?_) (fun c3JVcanBeAimedAt => ?_)
        · refine jr_aload rfl rfl ?_
          refine jr_getR rfl rfl rfl rfl (Or.inl rfl) ?_
          refine jr_aload rfl rfl ?_
          refine jr_getR rfl rfl rfl rfl (Or.inl rfl) ?_
          refine jr_cv1 (mc' := 0) (ms' := 0) rfl jm_Sway_begin_n jm_Sway_begin_f rfl rfl rfl rfl rfl rfl rfl (Nat.zero_le _) (Nat.zero_le _) ?_
          refine ev_Sway_begin hw hA hR hmo (fun S1 hS1 => ?_)
          refine jr_aload rfl rfl ?_
          refine jr_getR rfl rfl rfl rfl (Or.inl rfl) ?_
          refine jr_iload rfl rfl ?_
          refine jr_cv1 (mc' := 0) (ms' := 0) rfl jm_Poll_mayBe_n jm_Poll_mayBe_f rfl rfl rfl rfl rfl rfl rfl (Nat.zero_le _) (Nat.zero_le _) ?_
          show jx_W (jm_Poll_mayBe, _, _, _, _, _, _) _ 0 0 0 [some _, some _] [] _
          refine jr_iload rfl rfl ?_
          refine jr_cn1 (mc' := 0) (ms' := 0) rfl jm_JV_isLength_n jm_JV_isLength_f rfl rfl (by first | exact Or.inl ⟨rfl, rfl⟩ | exact Or.inr ⟨rfl, rfl⟩) rfl rfl rfl rfl (Nat.zero_le _) (Nat.zero_le _) ?_
          show jx_W (jm_JV_isLength, _, _, _, _, _, _) _ 0 0 0 [some _] [] _
          refine jr_iload rfl rfl ?_
          refine jr_if_lt rfl (fun c1JVisLength => ?_) (fun c1JVisLength => ?_)
          · refine jr_ic rfl ?_
            refine jr_zret rfl rfl rfl (Nat.zero_le _) (Nat.zero_le _) ?_
            refine jr_if_eq rfl (fun _ => ?_) (fun z => absurd (by decide) z)
            refine jr_ic rfl ?_
            refine jr_zret rfl rfl rfl (Nat.zero_le _) (Nat.zero_le _) ?_
            refine jr_zret rfl rfl rfl (Nat.zero_le _) (Nat.zero_le _) ?_
            refine jr_if_ne rfl (fun z => absurd (by decide) z) (fun _ => ?_)
            refine jr_ic rfl ?_
            refine jr_iret rfl rfl (Nat.zero_le _) (Nat.zero_le _) ?_
            show jx_W (jm_MD_bribe, d + 40, 0, 0, false, 1, _) _ 0 0 0 [some _, some _, some _, none, none, none, none, none] [] _
            refine jr_iload rfl rfl ?_
            refine jr_ic rfl ?_
            refine jr_ic rfl ?_
            refine jr_cs3 (mc' := 0) (ms' := 0) rfl jm_MD_isIn_n jm_MD_isIn_f rfl rfl rfl rfl rfl (Nat.zero_le _) (Nat.zero_le _) ?_
            show jx_W (jm_MD_isIn, _, _, _, _, _, _) _ 0 0 0 [some _, some _, some _] [] _
            refine jr_iload rfl rfl ?_
            refine jr_iload rfl rfl ?_
            refine jr_icmp_lt rfl (fun m2MDisIn => ?_) (fun m2MDisIn => ?_)
            · refine jr_ic rfl ?_
              refine jr_zret rfl rfl rfl (Nat.zero_le _) (Nat.zero_le _) ?_
              refine jr_if_eq rfl (fun _ => ?_) (fun z => absurd (by decide) z)
              refine jr_ic rfl ?_
              refine jr_iret rfl rfl (Nat.zero_le _) (Nat.zero_le _) ?_
              first
                | (have q := jz_Rel_p (S := S1) (k := 0 + 1) (S' := fun x => jh_I hm x 0) hRel0 (fun _ _ => rfl); rw [jS_self] at q; exact ⟨rfl, q⟩)
                | exact ⟨rfl, (jz_Rel_p hRel0 hS3)⟩
                | exact ⟨rfl, (jz_Rel_p hRel0 hS2)⟩
                | exact ⟨rfl, hRel0⟩
                | (exfalso; omega)
                | (exfalso; simp (disch := omega) only [Int32.lt_iff_toInt_lt, Int32.le_iff_toInt_le, ← Int32.toInt_inj, Int32.reduceToInt, nI_toInt] at c1 c4 c3JVcanBeAimedAt c1JVisLength m2MDisIn; done)
                | (exfalso; simp (disch := omega) only [Int32.lt_iff_toInt_lt, Int32.le_iff_toInt_le, ← Int32.toInt_inj, Int32.reduceToInt, nI_toInt] at c1 c4 c3JVcanBeAimedAt c1JVisLength m2MDisIn; omega)
            · refine jr_iload rfl rfl ?_
              refine jr_iload rfl rfl ?_
              refine jr_icmp_gt rfl (fun m5MDisIn => ?_) (fun m5MDisIn => ?_)
              · refine jr_ic rfl ?_
                refine jr_zret rfl rfl rfl (Nat.zero_le _) (Nat.zero_le _) ?_
                refine jr_if_eq rfl (fun _ => ?_) (fun z => absurd (by decide) z)
                refine jr_ic rfl ?_
                refine jr_iret rfl rfl (Nat.zero_le _) (Nat.zero_le _) ?_
                first
                  | (have q := jz_Rel_p (S := S1) (k := 0 + 1) (S' := fun x => jh_I hm x 0) hRel0 (fun _ _ => rfl); rw [jS_self] at q; exact ⟨rfl, q⟩)
                  | exact ⟨rfl, (jz_Rel_p hRel0 hS3)⟩
                  | exact ⟨rfl, (jz_Rel_p hRel0 hS2)⟩
                  | exact ⟨rfl, hRel0⟩
                  | (exfalso; omega)
                  | (exfalso; simp (disch := omega) only [Int32.lt_iff_toInt_lt, Int32.le_iff_toInt_le, ← Int32.toInt_inj, Int32.reduceToInt, nI_toInt] at c1 c4 c3JVcanBeAimedAt c1JVisLength m2MDisIn m5MDisIn; done)
                  | (exfalso; simp (disch := omega) only [Int32.lt_iff_toInt_lt, Int32.le_iff_toInt_le, ← Int32.toInt_inj, Int32.reduceToInt, nI_toInt] at c1 c4 c3JVcanBeAimedAt c1JVisLength m2MDisIn m5MDisIn; omega)
              · refine jr_ic rfl ?_
                refine jr_goto rfl ?_
                refine jr_zret rfl rfl rfl (Nat.zero_le _) (Nat.zero_le _) ?_
                refine jr_if_eq rfl (fun z => absurd z (by decide)) (fun _ => ?_)
                refine jr_aload rfl rfl ?_
                refine jr_iload rfl rfl ?_
                refine jr_cv1 (mc' := 0) (ms' := 0) rfl jm_MD_canTurnTo_n jm_MD_canTurnTo_f rfl rfl rfl rfl rfl rfl rfl (Nat.zero_le _) (Nat.zero_le _) ?_
                show jx_W (jm_MD_canTurnTo, _, _, _, _, _, _) _ 0 0 0 [some _, some _, none] [] _
                refine jr_aload rfl rfl ?_
                refine jr_cv0 (mc' := 0) (ms' := 0) rfl jm_MD_hasMonths_n jm_MD_hasMonths_f rfl rfl rfl rfl rfl rfl rfl (Nat.zero_le _) (Nat.zero_le _) ?_
                show jx_W (jm_MD_hasMonths, _, _, _, _, _, _) _ 0 0 0 [some _] [] _
                refine jr_aload rfl rfl ?_
                refine jr_getR rfl rfl rfl rfl (Or.inl rfl) ?_
                refine jr_aload rfl rfl ?_
                refine jr_getI rfl rfl ?_
                refine jr_iald (len := 2) rfl rfl hw.1 (by omega) ?_
                refine jr_if_le rfl (fun m5MDhasMonths => ?_) (fun m5MDhasMonths => ?_)
                · refine jr_ic rfl ?_
                  refine jr_zret rfl rfl rfl (Nat.zero_le _) (Nat.zero_le _) ?_
                  refine jr_if_eq rfl (fun _ => ?_) (fun z => absurd (by decide) z)
                  refine jr_ic rfl ?_
                  refine jr_zret rfl rfl rfl (Nat.zero_le _) (Nat.zero_le _) ?_
                  refine jr_if_ne rfl (fun z => absurd (by decide) z) (fun _ => ?_)
                  refine jr_ic rfl ?_
                  refine jr_iret rfl rfl (Nat.zero_le _) (Nat.zero_le _) ?_
                  first
                    | (have q := jz_Rel_p (S := S1) (k := 0 + 1) (S' := fun x => jh_I hm x 0) hRel0 (fun _ _ => rfl); rw [jS_self] at q; exact ⟨rfl, q⟩)
                    | exact ⟨rfl, (jz_Rel_p hRel0 hS3)⟩
                    | exact ⟨rfl, (jz_Rel_p hRel0 hS2)⟩
                    | exact ⟨rfl, hRel0⟩
                    | (exfalso; omega)
                    | (exfalso; simp (disch := omega) only [Int32.lt_iff_toInt_lt, Int32.le_iff_toInt_le, ← Int32.toInt_inj, Int32.reduceToInt, nI_toInt] at c1 c4 c3JVcanBeAimedAt c1JVisLength m2MDisIn m5MDisIn m5MDhasMonths; done)
                    | (exfalso; simp (disch := omega) only [Int32.lt_iff_toInt_lt, Int32.le_iff_toInt_le, ← Int32.toInt_inj, Int32.reduceToInt, nI_toInt] at c1 c4 c3JVcanBeAimedAt c1JVisLength m2MDisIn m5MDisIn m5MDhasMonths; omega)
                · refine jr_ic rfl ?_
                  refine jr_goto rfl ?_
                  refine jr_zret rfl rfl rfl (Nat.zero_le _) (Nat.zero_le _) ?_
                  refine jr_if_eq rfl (fun z => absurd z (by decide)) (fun _ => ?_)
                  refine jr_iload rfl rfl ?_
                  refine jr_ic rfl ?_
                  refine jr_ic rfl ?_
                  refine jr_cs3 (mc' := 0) (ms' := 0) rfl jm_MD_isIn_n jm_MD_isIn_f rfl rfl rfl rfl rfl (Nat.zero_le _) (Nat.zero_le _) ?_
                  show jx_W (jm_MD_isIn, _, _, _, _, _, _) _ 0 0 0 [some _, some _, some _] [] _
                  refine jr_iload rfl rfl ?_
                  refine jr_iload rfl rfl ?_
                  refine jr_icmp_lt rfl (fun m2MDisIn_2 => ?_) (fun m2MDisIn_2 => ?_)
                  · refine jr_ic rfl ?_
                    refine jr_zret rfl rfl rfl (Nat.zero_le _) (Nat.zero_le _) ?_
                    refine jr_if_ne rfl (fun z => absurd (by decide) z) (fun _ => ?_)
                    refine jr_ic rfl ?_
                    refine jr_zret rfl rfl rfl (Nat.zero_le _) (Nat.zero_le _) ?_
                    refine jr_if_ne rfl (fun z => absurd (by decide) z) (fun _ => ?_)
                    refine jr_ic rfl ?_
                    refine jr_iret rfl rfl (Nat.zero_le _) (Nat.zero_le _) ?_
                    first
                      | (have q := jz_Rel_p (S := S1) (k := 0 + 1) (S' := fun x => jh_I hm x 0) hRel0 (fun _ _ => rfl); rw [jS_self] at q; exact ⟨rfl, q⟩)
                      | exact ⟨rfl, (jz_Rel_p hRel0 hS3)⟩
                      | exact ⟨rfl, (jz_Rel_p hRel0 hS2)⟩
                      | exact ⟨rfl, hRel0⟩
                      | (exfalso; omega)
                      | (exfalso; simp (disch := omega) only [Int32.lt_iff_toInt_lt, Int32.le_iff_toInt_le, ← Int32.toInt_inj, Int32.reduceToInt, nI_toInt] at c1 c4 c3JVcanBeAimedAt c1JVisLength m2MDisIn m5MDisIn m5MDhasMonths m2MDisIn_2; done)
                      | (exfalso; simp (disch := omega) only [Int32.lt_iff_toInt_lt, Int32.le_iff_toInt_le, ← Int32.toInt_inj, Int32.reduceToInt, nI_toInt] at c1 c4 c3JVcanBeAimedAt c1JVisLength m2MDisIn m5MDisIn m5MDhasMonths m2MDisIn_2; omega)
                  · refine jr_iload rfl rfl ?_
                    refine jr_iload rfl rfl ?_
                    refine jr_icmp_gt rfl (fun m5MDisIn_2 => ?_) (fun m5MDisIn_2 => ?_)
                    · refine jr_ic rfl ?_
                      refine jr_zret rfl rfl rfl (Nat.zero_le _) (Nat.zero_le _) ?_
                      refine jr_if_ne rfl (fun z => absurd (by decide) z) (fun _ => ?_)
                      refine jr_ic rfl ?_
                      refine jr_zret rfl rfl rfl (Nat.zero_le _) (Nat.zero_le _) ?_
                      refine jr_if_ne rfl (fun z => absurd (by decide) z) (fun _ => ?_)
                      refine jr_ic rfl ?_
                      refine jr_iret rfl rfl (Nat.zero_le _) (Nat.zero_le _) ?_
                      first
                        | (have q := jz_Rel_p (S := S1) (k := 0 + 1) (S' := fun x => jh_I hm x 0) hRel0 (fun _ _ => rfl); rw [jS_self] at q; exact ⟨rfl, q⟩)
                        | exact ⟨rfl, (jz_Rel_p hRel0 hS3)⟩
                        | exact ⟨rfl, (jz_Rel_p hRel0 hS2)⟩
                        | exact ⟨rfl, hRel0⟩
                        | (exfalso; omega)
                        | (exfalso; simp (disch := omega) only [Int32.lt_iff_toInt_lt, Int32.le_iff_toInt_le, ← Int32.toInt_inj, Int32.reduceToInt, nI_toInt] at c1 c4 c3JVcanBeAimedAt c1JVisLength m2MDisIn m5MDisIn m5MDhasMonths m2MDisIn_2 m5MDisIn_2; done)
                        | (exfalso; simp (disch := omega) only [Int32.lt_iff_toInt_lt, Int32.le_iff_toInt_le, ← Int32.toInt_inj, Int32.reduceToInt, nI_toInt] at c1 c4 c3JVcanBeAimedAt c1JVisLength m2MDisIn m5MDisIn m5MDhasMonths m2MDisIn_2 m5MDisIn_2; omega)
                    · refine jr_ic rfl ?_
                      refine jr_goto rfl ?_
                      refine jr_zret rfl rfl rfl (Nat.zero_le _) (Nat.zero_le _) ?_
                      refine jr_if_ne rfl (fun _ => ?_) (fun z => absurd z (by decide))
                      refine jr_aload rfl rfl ?_
                      refine jr_cv0 (mc' := 0) (ms' := 0) rfl jm_MD_layVotes_n jm_MD_layVotes_f rfl rfl rfl rfl rfl rfl rfl (Nat.zero_le _) (Nat.zero_le _) ?_
                      first
                        | (exfalso; omega)
                        | (exfalso; simp (disch := omega) only [Int32.lt_iff_toInt_lt, Int32.le_iff_toInt_le, ← Int32.toInt_inj, Int32.reduceToInt, nI_toInt] at c1 c4 c3JVcanBeAimedAt c1JVisLength m2MDisIn m5MDisIn m5MDhasMonths m2MDisIn_2 m5MDisIn_2; done)
                        | (exfalso; simp (disch := omega) only [Int32.lt_iff_toInt_lt, Int32.le_iff_toInt_le, ← Int32.toInt_inj, Int32.reduceToInt, nI_toInt] at c1 c4 c3JVcanBeAimedAt c1JVisLength m2MDisIn m5MDisIn m5MDhasMonths m2MDisIn_2 m5MDisIn_2; omega)
          · refine jr_iload rfl rfl ?_
            refine jr_ic rfl ?_
            refine jr_icmp_gt rfl (fun c4JVisLength => ?_) (fun c4JVisLength => ?_)
            · refine jr_ic rfl ?_
              refine jr_zret rfl rfl rfl (Nat.zero_le _) (Nat.zero_le _) ?_
              refine jr_if_eq rfl (fun _ => ?_) (fun z => absurd (by decide) z)
              refine jr_ic rfl ?_
              refine jr_zret rfl rfl rfl (Nat.zero_le _) (Nat.zero_le _) ?_
              refine jr_zret rfl rfl rfl (Nat.zero_le _) (Nat.zero_le _) ?_
              refine jr_if_ne rfl (fun z => absurd (by decide) z) (fun _ => ?_)
              refine jr_ic rfl ?_
              refine jr_iret rfl rfl (Nat.zero_le _) (Nat.zero_le _) ?_
              show jx_W (jm_MD_bribe, d + 40, 0, 0, false, 1, _) _ 0 0 0 [some _, some _, some _, none, none, none, none, none] [] _
              refine jr_iload rfl rfl ?_
              refine jr_ic rfl ?_
              refine jr_ic rfl ?_
              refine jr_cs3 (mc' := 0) (ms' := 0) rfl jm_MD_isIn_n jm_MD_isIn_f rfl rfl rfl rfl rfl (Nat.zero_le _) (Nat.zero_le _) ?_
              show jx_W (jm_MD_isIn, _, _, _, _, _, _) _ 0 0 0 [some _, some _, some _] [] _
              refine jr_iload rfl rfl ?_
              refine jr_iload rfl rfl ?_
              refine jr_icmp_lt rfl (fun m2MDisIn => ?_) (fun m2MDisIn => ?_)
              · refine jr_ic rfl ?_
                refine jr_zret rfl rfl rfl (Nat.zero_le _) (Nat.zero_le _) ?_
                refine jr_if_eq rfl (fun _ => ?_) (fun z => absurd (by decide) z)
                refine jr_ic rfl ?_
                refine jr_iret rfl rfl (Nat.zero_le _) (Nat.zero_le _) ?_
                first
                  | (have q := jz_Rel_p (S := S1) (k := 0 + 1) (S' := fun x => jh_I hm x 0) hRel0 (fun _ _ => rfl); rw [jS_self] at q; exact ⟨rfl, q⟩)
                  | exact ⟨rfl, (jz_Rel_p hRel0 hS3)⟩
                  | exact ⟨rfl, (jz_Rel_p hRel0 hS2)⟩
                  | exact ⟨rfl, hRel0⟩
                  | (exfalso; omega)
                  | (exfalso; simp (disch := omega) only [Int32.lt_iff_toInt_lt, Int32.le_iff_toInt_le, ← Int32.toInt_inj, Int32.reduceToInt, nI_toInt] at c1 c4 c3JVcanBeAimedAt c1JVisLength c4JVisLength m2MDisIn; done)
                  | (exfalso; simp (disch := omega) only [Int32.lt_iff_toInt_lt, Int32.le_iff_toInt_le, ← Int32.toInt_inj, Int32.reduceToInt, nI_toInt] at c1 c4 c3JVcanBeAimedAt c1JVisLength c4JVisLength m2MDisIn; omega)
              · refine jr_iload rfl rfl ?_
                refine jr_iload rfl rfl ?_
                refine jr_icmp_gt rfl (fun m5MDisIn => ?_) (fun m5MDisIn => ?_)
                · refine jr_ic rfl ?_
                  refine jr_zret rfl rfl rfl (Nat.zero_le _) (Nat.zero_le _) ?_
                  refine jr_if_eq rfl (fun _ => ?_) (fun z => absurd (by decide) z)
                  refine jr_ic rfl ?_
                  refine jr_iret rfl rfl (Nat.zero_le _) (Nat.zero_le _) ?_
                  first
                    | (have q := jz_Rel_p (S := S1) (k := 0 + 1) (S' := fun x => jh_I hm x 0) hRel0 (fun _ _ => rfl); rw [jS_self] at q; exact ⟨rfl, q⟩)
                    | exact ⟨rfl, (jz_Rel_p hRel0 hS3)⟩
                    | exact ⟨rfl, (jz_Rel_p hRel0 hS2)⟩
                    | exact ⟨rfl, hRel0⟩
                    | (exfalso; omega)
                    | (exfalso; simp (disch := omega) only [Int32.lt_iff_toInt_lt, Int32.le_iff_toInt_le, ← Int32.toInt_inj, Int32.reduceToInt, nI_toInt] at c1 c4 c3JVcanBeAimedAt c1JVisLength c4JVisLength m2MDisIn m5MDisIn; done)
                    | (exfalso; simp (disch := omega) only [Int32.lt_iff_toInt_lt, Int32.le_iff_toInt_le, ← Int32.toInt_inj, Int32.reduceToInt, nI_toInt] at c1 c4 c3JVcanBeAimedAt c1JVisLength c4JVisLength m2MDisIn m5MDisIn; omega)
                · refine jr_ic rfl ?_
                  refine jr_goto rfl ?_
                  refine jr_zret rfl rfl rfl (Nat.zero_le _) (Nat.zero_le _) ?_
                  refine jr_if_eq rfl (fun z => absurd z (by decide)) (fun _ => ?_)
                  refine jr_aload rfl rfl ?_
                  refine jr_iload rfl rfl ?_
                  refine jr_cv1 (mc' := 0) (ms' := 0) rfl jm_MD_canTurnTo_n jm_MD_canTurnTo_f rfl rfl rfl rfl rfl rfl rfl (Nat.zero_le _) (Nat.zero_le _) ?_
                  show jx_W (jm_MD_canTurnTo, _, _, _, _, _, _) _ 0 0 0 [some _, some _, none] [] _
                  refine jr_aload rfl rfl ?_
                  refine jr_cv0 (mc' := 0) (ms' := 0) rfl jm_MD_hasMonths_n jm_MD_hasMonths_f rfl rfl rfl rfl rfl rfl rfl (Nat.zero_le _) (Nat.zero_le _) ?_
                  show jx_W (jm_MD_hasMonths, _, _, _, _, _, _) _ 0 0 0 [some _] [] _
                  refine jr_aload rfl rfl ?_
                  refine jr_getR rfl rfl rfl rfl (Or.inl rfl) ?_
                  refine jr_aload rfl rfl ?_
                  refine jr_getI rfl rfl ?_
                  refine jr_iald (len := 2) rfl rfl hw.1 (by omega) ?_
                  refine jr_if_le rfl (fun m5MDhasMonths => ?_) (fun m5MDhasMonths => ?_)
                  · refine jr_ic rfl ?_
                    refine jr_zret rfl rfl rfl (Nat.zero_le _) (Nat.zero_le _) ?_
                    refine jr_if_eq rfl (fun _ => ?_) (fun z => absurd (by decide) z)
                    refine jr_ic rfl ?_
                    refine jr_zret rfl rfl rfl (Nat.zero_le _) (Nat.zero_le _) ?_
                    refine jr_if_ne rfl (fun z => absurd (by decide) z) (fun _ => ?_)
                    refine jr_ic rfl ?_
                    refine jr_iret rfl rfl (Nat.zero_le _) (Nat.zero_le _) ?_
                    first
                      | (have q := jz_Rel_p (S := S1) (k := 0 + 1) (S' := fun x => jh_I hm x 0) hRel0 (fun _ _ => rfl); rw [jS_self] at q; exact ⟨rfl, q⟩)
                      | exact ⟨rfl, (jz_Rel_p hRel0 hS3)⟩
                      | exact ⟨rfl, (jz_Rel_p hRel0 hS2)⟩
                      | exact ⟨rfl, hRel0⟩
                      | (exfalso; omega)
                      | (exfalso; simp (disch := omega) only [Int32.lt_iff_toInt_lt, Int32.le_iff_toInt_le, ← Int32.toInt_inj, Int32.reduceToInt, nI_toInt] at c1 c4 c3JVcanBeAimedAt c1JVisLength c4JVisLength m2MDisIn m5MDisIn m5MDhasMonths; done)
                      | (exfalso; simp (disch := omega) only [Int32.lt_iff_toInt_lt, Int32.le_iff_toInt_le, ← Int32.toInt_inj, Int32.reduceToInt, nI_toInt] at c1 c4 c3JVcanBeAimedAt c1JVisLength c4JVisLength m2MDisIn m5MDisIn m5MDhasMonths; omega)
                  · refine jr_ic rfl ?_
                    refine jr_goto rfl ?_
                    refine jr_zret rfl rfl rfl (Nat.zero_le _) (Nat.zero_le _) ?_
                    refine jr_if_eq rfl (fun z => absurd z (by decide)) (fun _ => ?_)
                    refine jr_iload rfl rfl ?_
                    refine jr_ic rfl ?_
                    refine jr_ic rfl ?_
                    refine jr_cs3 (mc' := 0) (ms' := 0) rfl jm_MD_isIn_n jm_MD_isIn_f rfl rfl rfl rfl rfl (Nat.zero_le _) (Nat.zero_le _) ?_
                    show jx_W (jm_MD_isIn, _, _, _, _, _, _) _ 0 0 0 [some _, some _, some _] [] _
                    refine jr_iload rfl rfl ?_
                    refine jr_iload rfl rfl ?_
                    refine jr_icmp_lt rfl (fun m2MDisIn_2 => ?_) (fun m2MDisIn_2 => ?_)
                    · refine jr_ic rfl ?_
                      refine jr_zret rfl rfl rfl (Nat.zero_le _) (Nat.zero_le _) ?_
                      refine jr_if_ne rfl (fun z => absurd (by decide) z) (fun _ => ?_)
                      refine jr_ic rfl ?_
                      refine jr_zret rfl rfl rfl (Nat.zero_le _) (Nat.zero_le _) ?_
                      refine jr_if_ne rfl (fun z => absurd (by decide) z) (fun _ => ?_)
                      refine jr_ic rfl ?_
                      refine jr_iret rfl rfl (Nat.zero_le _) (Nat.zero_le _) ?_
                      first
                        | (have q := jz_Rel_p (S := S1) (k := 0 + 1) (S' := fun x => jh_I hm x 0) hRel0 (fun _ _ => rfl); rw [jS_self] at q; exact ⟨rfl, q⟩)
                        | exact ⟨rfl, (jz_Rel_p hRel0 hS3)⟩
                        | exact ⟨rfl, (jz_Rel_p hRel0 hS2)⟩
                        | exact ⟨rfl, hRel0⟩
                        | (exfalso; omega)
                        | (exfalso; simp (disch := omega) only [Int32.lt_iff_toInt_lt, Int32.le_iff_toInt_le, ← Int32.toInt_inj, Int32.reduceToInt, nI_toInt] at c1 c4 c3JVcanBeAimedAt c1JVisLength c4JVisLength m2MDisIn m5MDisIn m5MDhasMonths m2MDisIn_2; done)
                        | (exfalso; simp (disch := omega) only [Int32.lt_iff_toInt_lt, Int32.le_iff_toInt_le, ← Int32.toInt_inj, Int32.reduceToInt, nI_toInt] at c1 c4 c3JVcanBeAimedAt c1JVisLength c4JVisLength m2MDisIn m5MDisIn m5MDhasMonths m2MDisIn_2; omega)
                    · refine jr_iload rfl rfl ?_
                      refine jr_iload rfl rfl ?_
                      refine jr_icmp_gt rfl (fun m5MDisIn_2 => ?_) (fun m5MDisIn_2 => ?_)
                      · refine jr_ic rfl ?_
                        refine jr_zret rfl rfl rfl (Nat.zero_le _) (Nat.zero_le _) ?_
                        refine jr_if_ne rfl (fun z => absurd (by decide) z) (fun _ => ?_)
                        refine jr_ic rfl ?_
                        refine jr_zret rfl rfl rfl (Nat.zero_le _) (Nat.zero_le _) ?_
                        refine jr_if_ne rfl (fun z => absurd (by decide) z) (fun _ => ?_)
                        refine jr_ic rfl ?_
                        refine jr_iret rfl rfl (Nat.zero_le _) (Nat.zero_le _) ?_
                        first
                          | (have q := jz_Rel_p (S := S1) (k := 0 + 1) (S' := fun x => jh_I hm x 0) hRel0 (fun _ _ => rfl); rw [jS_self] at q; exact ⟨rfl, q⟩)
                          | exact ⟨rfl, (jz_Rel_p hRel0 hS3)⟩
                          | exact ⟨rfl, (jz_Rel_p hRel0 hS2)⟩
                          | exact ⟨rfl, hRel0⟩
                          | (exfalso; omega)
                          | (exfalso; simp (disch := omega) only [Int32.lt_iff_toInt_lt, Int32.le_iff_toInt_le, ← Int32.toInt_inj, Int32.reduceToInt, nI_toInt] at c1 c4 c3JVcanBeAimedAt c1JVisLength c4JVisLength m2MDisIn m5MDisIn m5MDhasMonths m2MDisIn_2 m5MDisIn_2; done)
                          | (exfalso; simp (disch := omega) only [Int32.lt_iff_toInt_lt, Int32.le_iff_toInt_le, ← Int32.toInt_inj, Int32.reduceToInt, nI_toInt] at c1 c4 c3JVcanBeAimedAt c1JVisLength c4JVisLength m2MDisIn m5MDisIn m5MDhasMonths m2MDisIn_2 m5MDisIn_2; omega)
                      · refine jr_ic rfl ?_
                        refine jr_goto rfl ?_
                        refine jr_zret rfl rfl rfl (Nat.zero_le _) (Nat.zero_le _) ?_
                        refine jr_if_ne rfl (fun _ => ?_) (fun z => absurd z (by decide))
                        refine jr_aload rfl rfl ?_
                        refine jr_cv0 (mc' := 0) (ms' := 0) rfl jm_MD_layVotes_n jm_MD_layVotes_f rfl rfl rfl rfl rfl rfl rfl (Nat.zero_le _) (Nat.zero_le _) ?_
                        first
                          | (exfalso; omega)
                          | (exfalso; simp (disch := omega) only [Int32.lt_iff_toInt_lt, Int32.le_iff_toInt_le, ← Int32.toInt_inj, Int32.reduceToInt, nI_toInt] at c1 c4 c3JVcanBeAimedAt c1JVisLength c4JVisLength m2MDisIn m5MDisIn m5MDhasMonths m2MDisIn_2 m5MDisIn_2; done)
                          | (exfalso; simp (disch := omega) only [Int32.lt_iff_toInt_lt, Int32.le_iff_toInt_le, ← Int32.toInt_inj, Int32.reduceToInt, nI_toInt] at c1 c4 c3JVcanBeAimedAt c1JVisLength c4JVisLength m2MDisIn m5MDisIn m5MDhasMonths m2MDisIn_2 m5MDisIn_2; omega)
            · refine jr_ic rfl ?_
              refine jr_goto rfl ?_
              refine jr_zret rfl rfl rfl (Nat.zero_le _) (Nat.zero_le _) ?_
              refine jr_if_eq rfl (fun z => absurd z (by decide)) (fun _ => ?_)
              refine jr_aload rfl rfl ?_
              refine jr_getI rfl rfl ?_
              refine jr_iload rfl rfl ?_
              refine jr_iushr rfl ?_
              refine jr_ic rfl ?_
              refine jr_iand rfl ?_
              refine jr_if_eq rfl (fun c9PollmayBe => ?_) (fun c9PollmayBe => ?_)
              · refine jr_ic rfl ?_
                refine jr_zret rfl rfl rfl (Nat.zero_le _) (Nat.zero_le _) ?_
                refine jr_zret rfl rfl rfl (Nat.zero_le _) (Nat.zero_le _) ?_
                refine jr_if_ne rfl (fun z => absurd (by decide) z) (fun _ => ?_)
                refine jr_ic rfl ?_
                refine jr_iret rfl rfl (Nat.zero_le _) (Nat.zero_le _) ?_
                show jx_W (jm_MD_bribe, d + 40, 0, 0, false, 1, _) _ 0 0 0 [some _, some _, some _, none, none, none, none, none] [] _
                refine jr_iload rfl rfl ?_
                refine jr_ic rfl ?_
                refine jr_ic rfl ?_
                refine jr_cs3 (mc' := 0) (ms' := 0) rfl jm_MD_isIn_n jm_MD_isIn_f rfl rfl rfl rfl rfl (Nat.zero_le _) (Nat.zero_le _) ?_
                show jx_W (jm_MD_isIn, _, _, _, _, _, _) _ 0 0 0 [some _, some _, some _] [] _
                refine jr_iload rfl rfl ?_
                refine jr_iload rfl rfl ?_
                refine jr_icmp_lt rfl (fun m2MDisIn => ?_) (fun m2MDisIn => ?_)
                · refine jr_ic rfl ?_
                  refine jr_zret rfl rfl rfl (Nat.zero_le _) (Nat.zero_le _) ?_
                  refine jr_if_eq rfl (fun _ => ?_) (fun z => absurd (by decide) z)
                  refine jr_ic rfl ?_
                  refine jr_iret rfl rfl (Nat.zero_le _) (Nat.zero_le _) ?_
                  first
                    | (have q := jz_Rel_p (S := S1) (k := 0 + 1) (S' := fun x => jh_I hm x 0) hRel0 (fun _ _ => rfl); rw [jS_self] at q; exact ⟨rfl, q⟩)
                    | exact ⟨rfl, (jz_Rel_p hRel0 hS3)⟩
                    | exact ⟨rfl, (jz_Rel_p hRel0 hS2)⟩
                    | exact ⟨rfl, hRel0⟩
                    | (exfalso; omega)
                    | (exfalso; simp (disch := omega) only [Int32.lt_iff_toInt_lt, Int32.le_iff_toInt_le, ← Int32.toInt_inj, Int32.reduceToInt, nI_toInt] at c1 c4 c3JVcanBeAimedAt c1JVisLength c4JVisLength c9PollmayBe m2MDisIn; done)
                    | (exfalso; simp (disch := omega) only [Int32.lt_iff_toInt_lt, Int32.le_iff_toInt_le, ← Int32.toInt_inj, Int32.reduceToInt, nI_toInt] at c1 c4 c3JVcanBeAimedAt c1JVisLength c4JVisLength c9PollmayBe m2MDisIn; omega)
                · refine jr_iload rfl rfl ?_
                  refine jr_iload rfl rfl ?_
                  refine jr_icmp_gt rfl (fun m5MDisIn => ?_) (fun m5MDisIn => ?_)
                  · refine jr_ic rfl ?_
                    refine jr_zret rfl rfl rfl (Nat.zero_le _) (Nat.zero_le _) ?_
                    refine jr_if_eq rfl (fun _ => ?_) (fun z => absurd (by decide) z)
                    refine jr_ic rfl ?_
                    refine jr_iret rfl rfl (Nat.zero_le _) (Nat.zero_le _) ?_
                    first
                      | (have q := jz_Rel_p (S := S1) (k := 0 + 1) (S' := fun x => jh_I hm x 0) hRel0 (fun _ _ => rfl); rw [jS_self] at q; exact ⟨rfl, q⟩)
                      | exact ⟨rfl, (jz_Rel_p hRel0 hS3)⟩
                      | exact ⟨rfl, (jz_Rel_p hRel0 hS2)⟩
                      | exact ⟨rfl, hRel0⟩
                      | (exfalso; omega)
                      | (exfalso; simp (disch := omega) only [Int32.lt_iff_toInt_lt, Int32.le_iff_toInt_le, ← Int32.toInt_inj, Int32.reduceToInt, nI_toInt] at c1 c4 c3JVcanBeAimedAt c1JVisLength c4JVisLength c9PollmayBe m2MDisIn m5MDisIn; done)
                      | (exfalso; simp (disch := omega) only [Int32.lt_iff_toInt_lt, Int32.le_iff_toInt_le, ← Int32.toInt_inj, Int32.reduceToInt, nI_toInt] at c1 c4 c3JVcanBeAimedAt c1JVisLength c4JVisLength c9PollmayBe m2MDisIn m5MDisIn; omega)
                  · refine jr_ic rfl ?_
                    refine jr_goto rfl ?_
                    refine jr_zret rfl rfl rfl (Nat.zero_le _) (Nat.zero_le _) ?_
                    refine jr_if_eq rfl (fun z => absurd z (by decide)) (fun _ => ?_)
                    refine jr_aload rfl rfl ?_
                    refine jr_iload rfl rfl ?_
                    refine jr_cv1 (mc' := 0) (ms' := 0) rfl jm_MD_canTurnTo_n jm_MD_canTurnTo_f rfl rfl rfl rfl rfl rfl rfl (Nat.zero_le _) (Nat.zero_le _) ?_
                    show jx_W (jm_MD_canTurnTo, _, _, _, _, _, _) _ 0 0 0 [some _, some _, none] [] _
                    refine jr_aload rfl rfl ?_
                    refine jr_cv0 (mc' := 0) (ms' := 0) rfl jm_MD_hasMonths_n jm_MD_hasMonths_f rfl rfl rfl rfl rfl rfl rfl (Nat.zero_le _) (Nat.zero_le _) ?_
                    show jx_W (jm_MD_hasMonths, _, _, _, _, _, _) _ 0 0 0 [some _] [] _
                    refine jr_aload rfl rfl ?_
                    refine jr_getR rfl rfl rfl rfl (Or.inl rfl) ?_
                    refine jr_aload rfl rfl ?_
                    refine jr_getI rfl rfl ?_
                    refine jr_iald (len := 2) rfl rfl hw.1 (by omega) ?_
                    refine jr_if_le rfl (fun m5MDhasMonths => ?_) (fun m5MDhasMonths => ?_)
                    · refine jr_ic rfl ?_
                      refine jr_zret rfl rfl rfl (Nat.zero_le _) (Nat.zero_le _) ?_
                      refine jr_if_eq rfl (fun _ => ?_) (fun z => absurd (by decide) z)
                      refine jr_ic rfl ?_
                      refine jr_zret rfl rfl rfl (Nat.zero_le _) (Nat.zero_le _) ?_
                      refine jr_if_ne rfl (fun z => absurd (by decide) z) (fun _ => ?_)
                      refine jr_ic rfl ?_
                      refine jr_iret rfl rfl (Nat.zero_le _) (Nat.zero_le _) ?_
                      first
                        | (have q := jz_Rel_p (S := S1) (k := 0 + 1) (S' := fun x => jh_I hm x 0) hRel0 (fun _ _ => rfl); rw [jS_self] at q; exact ⟨rfl, q⟩)
                        | exact ⟨rfl, (jz_Rel_p hRel0 hS3)⟩
                        | exact ⟨rfl, (jz_Rel_p hRel0 hS2)⟩
                        | exact ⟨rfl, hRel0⟩
                        | (exfalso; omega)
                        | (exfalso; simp (disch := omega) only [Int32.lt_iff_toInt_lt, Int32.le_iff_toInt_le, ← Int32.toInt_inj, Int32.reduceToInt, nI_toInt] at c1 c4 c3JVcanBeAimedAt c1JVisLength c4JVisLength c9PollmayBe m2MDisIn m5MDisIn m5MDhasMonths; done)
                        | (exfalso; simp (disch := omega) only [Int32.lt_iff_toInt_lt, Int32.le_iff_toInt_le, ← Int32.toInt_inj, Int32.reduceToInt, nI_toInt] at c1 c4 c3JVcanBeAimedAt c1JVisLength c4JVisLength c9PollmayBe m2MDisIn m5MDisIn m5MDhasMonths; omega)
                    · refine jr_ic rfl ?_
                      refine jr_goto rfl ?_
                      refine jr_zret rfl rfl rfl (Nat.zero_le _) (Nat.zero_le _) ?_
                      refine jr_if_eq rfl (fun z => absurd z (by decide)) (fun _ => ?_)
                      refine jr_iload rfl rfl ?_
                      refine jr_ic rfl ?_
                      refine jr_ic rfl ?_
                      refine jr_cs3 (mc' := 0) (ms' := 0) rfl jm_MD_isIn_n jm_MD_isIn_f rfl rfl rfl rfl rfl (Nat.zero_le _) (Nat.zero_le _) ?_
                      show jx_W (jm_MD_isIn, _, _, _, _, _, _) _ 0 0 0 [some _, some _, some _] [] _
                      refine jr_iload rfl rfl ?_
                      refine jr_iload rfl rfl ?_
                      refine jr_icmp_lt rfl (fun m2MDisIn_2 => ?_) (fun m2MDisIn_2 => ?_)
                      · refine jr_ic rfl ?_
                        refine jr_zret rfl rfl rfl (Nat.zero_le _) (Nat.zero_le _) ?_
                        refine jr_if_ne rfl (fun z => absurd (by decide) z) (fun _ => ?_)
                        refine jr_ic rfl ?_
                        refine jr_zret rfl rfl rfl (Nat.zero_le _) (Nat.zero_le _) ?_
                        refine jr_if_ne rfl (fun z => absurd (by decide) z) (fun _ => ?_)
                        refine jr_ic rfl ?_
                        refine jr_iret rfl rfl (Nat.zero_le _) (Nat.zero_le _) ?_
                        first
                          | (have q := jz_Rel_p (S := S1) (k := 0 + 1) (S' := fun x => jh_I hm x 0) hRel0 (fun _ _ => rfl); rw [jS_self] at q; exact ⟨rfl, q⟩)
                          | exact ⟨rfl, (jz_Rel_p hRel0 hS3)⟩
                          | exact ⟨rfl, (jz_Rel_p hRel0 hS2)⟩
                          | exact ⟨rfl, hRel0⟩
                          | (exfalso; omega)
                          | (exfalso; simp (disch := omega) only [Int32.lt_iff_toInt_lt, Int32.le_iff_toInt_le, ← Int32.toInt_inj, Int32.reduceToInt, nI_toInt] at c1 c4 c3JVcanBeAimedAt c1JVisLength c4JVisLength c9PollmayBe m2MDisIn m5MDisIn m5MDhasMonths m2MDisIn_2; done)
                          | (exfalso; simp (disch := omega) only [Int32.lt_iff_toInt_lt, Int32.le_iff_toInt_le, ← Int32.toInt_inj, Int32.reduceToInt, nI_toInt] at c1 c4 c3JVcanBeAimedAt c1JVisLength c4JVisLength c9PollmayBe m2MDisIn m5MDisIn m5MDhasMonths m2MDisIn_2; omega)
                      · refine jr_iload rfl rfl ?_
                        refine jr_iload rfl rfl ?_
                        refine jr_icmp_gt rfl (fun m5MDisIn_2 => ?_) (fun m5MDisIn_2 => ?_)
                        · refine jr_ic rfl ?_
                          refine jr_zret rfl rfl rfl (Nat.zero_le _) (Nat.zero_le _) ?_
                          refine jr_if_ne rfl (fun z => absurd (by decide) z) (fun _ => ?_)
                          refine jr_ic rfl ?_
                          refine jr_zret rfl rfl rfl (Nat.zero_le _) (Nat.zero_le _) ?_
                          refine jr_if_ne rfl (fun z => absurd (by decide) z) (fun _ => ?_)
                          refine jr_ic rfl ?_
                          refine jr_iret rfl rfl (Nat.zero_le _) (Nat.zero_le _) ?_
                          first
                            | (have q := jz_Rel_p (S := S1) (k := 0 + 1) (S' := fun x => jh_I hm x 0) hRel0 (fun _ _ => rfl); rw [jS_self] at q; exact ⟨rfl, q⟩)
                            | exact ⟨rfl, (jz_Rel_p hRel0 hS3)⟩
                            | exact ⟨rfl, (jz_Rel_p hRel0 hS2)⟩
                            | exact ⟨rfl, hRel0⟩
                            | (exfalso; omega)
                            | (exfalso; simp (disch := omega) only [Int32.lt_iff_toInt_lt, Int32.le_iff_toInt_le, ← Int32.toInt_inj, Int32.reduceToInt, nI_toInt] at c1 c4 c3JVcanBeAimedAt c1JVisLength c4JVisLength c9PollmayBe m2MDisIn m5MDisIn m5MDhasMonths m2MDisIn_2 m5MDisIn_2; done)
                            | (exfalso; simp (disch := omega) only [Int32.lt_iff_toInt_lt, Int32.le_iff_toInt_le, ← Int32.toInt_inj, Int32.reduceToInt, nI_toInt] at c1 c4 c3JVcanBeAimedAt c1JVisLength c4JVisLength c9PollmayBe m2MDisIn m5MDisIn m5MDhasMonths m2MDisIn_2 m5MDisIn_2; omega)
                        · refine jr_ic rfl ?_
                          refine jr_goto rfl ?_
                          refine jr_zret rfl rfl rfl (Nat.zero_le _) (Nat.zero_le _) ?_
                          refine jr_if_ne rfl (fun _ => ?_) (fun z => absurd z (by decide))
                          refine jr_aload rfl rfl ?_
                          refine jr_cv0 (mc' := 0) (ms' := 0) rfl jm_MD_layVotes_n jm_MD_layVotes_f rfl rfl rfl rfl rfl rfl rfl (Nat.zero_le _) (Nat.zero_le _) ?_
                          first
                            | (exfalso; omega)
                            | (exfalso; simp (disch := omega) only [Int32.lt_iff_toInt_lt, Int32.le_iff_toInt_le, ← Int32.toInt_inj, Int32.reduceToInt, nI_toInt] at c1 c4 c3JVcanBeAimedAt c1JVisLength c4JVisLength c9PollmayBe m2MDisIn m5MDisIn m5MDhasMonths m2MDisIn_2 m5MDisIn_2; done)
                            | (exfalso; simp (disch := omega) only [Int32.lt_iff_toInt_lt, Int32.le_iff_toInt_le, ← Int32.toInt_inj, Int32.reduceToInt, nI_toInt] at c1 c4 c3JVcanBeAimedAt c1JVisLength c4JVisLength c9PollmayBe m2MDisIn m5MDisIn m5MDhasMonths m2MDisIn_2 m5MDisIn_2; omega)
              · refine jr_ic rfl ?_
                refine jr_goto rfl ?_
                refine jr_zret rfl rfl rfl (Nat.zero_le _) (Nat.zero_le _) ?_
                refine jr_zret rfl rfl rfl (Nat.zero_le _) (Nat.zero_le _) ?_
                refine jr_if_ne rfl (fun _ => ?_) (fun z => absurd z (by decide))
                refine jr_aload rfl rfl ?_
                refine jr_getR rfl rfl rfl rfl (Or.inl rfl) ?_
                refine jr_iload rfl rfl ?_
                refine jr_cv1 (mc' := 0) (ms' := 0) rfl jm_Sway_cheapestSet_n jm_Sway_cheapestSet_f rfl rfl rfl rfl rfl rfl rfl (Nat.zero_le _) (Nat.zero_le _) ?_
                first
                  | (exfalso; omega)
                  | (exfalso; simp (disch := omega) only [Int32.lt_iff_toInt_lt, Int32.le_iff_toInt_le, ← Int32.toInt_inj, Int32.reduceToInt, nI_toInt] at c1 c4 c3JVcanBeAimedAt c1JVisLength c4JVisLength c9PollmayBe; done)
                  | (exfalso; simp (disch := omega) only [Int32.lt_iff_toInt_lt, Int32.le_iff_toInt_le, ← Int32.toInt_inj, Int32.reduceToInt, nI_toInt] at c1 c4 c3JVcanBeAimedAt c1JVisLength c4JVisLength c9PollmayBe; omega)
        · refine jr_ic rfl ?_
          refine jr_zret rfl rfl rfl (Nat.zero_le _) (Nat.zero_le _) ?_
          refine jr_if_ne rfl (fun z => absurd (by decide) z) (fun _ => ?_)
          refine jr_ic rfl ?_
          refine jr_iret rfl rfl (Nat.zero_le _) (Nat.zero_le _) ?_
          show jx_W (jm_MD_bribe, d + 40, 0, 0, false, 1, _) _ 0 0 0 [some _, some _, some _, none, none, none, none, none] [] _
          refine jr_iload rfl rfl ?_
          refine jr_ic rfl ?_
          refine jr_ic rfl ?_
          refine jr_cs3 (mc' := 0) (ms' := 0) rfl jm_MD_isIn_n jm_MD_isIn_f rfl rfl rfl rfl rfl (Nat.zero_le _) (Nat.zero_le _) ?_
          show jx_W (jm_MD_isIn, _, _, _, _, _, _) _ 0 0 0 [some _, some _, some _] [] _
          refine jr_iload rfl rfl ?_
          refine jr_iload rfl rfl ?_
          refine jr_icmp_lt rfl (fun m2MDisIn => ?_) (fun m2MDisIn => ?_)
          · refine jr_ic rfl ?_
            refine jr_zret rfl rfl rfl (Nat.zero_le _) (Nat.zero_le _) ?_
            refine jr_if_eq rfl (fun _ => ?_) (fun z => absurd (by decide) z)
            refine jr_ic rfl ?_
            refine jr_iret rfl rfl (Nat.zero_le _) (Nat.zero_le _) ?_
            first
              | (have q := jz_Rel_p (S := S1) (k := 0 + 1) (S' := fun x => jh_I hm x 0) hRel0 (fun _ _ => rfl); rw [jS_self] at q; exact ⟨rfl, q⟩)
              | exact ⟨rfl, (jz_Rel_p hRel0 hS3)⟩
              | exact ⟨rfl, (jz_Rel_p hRel0 hS2)⟩
              | exact ⟨rfl, hRel0⟩
              | (exfalso; omega)
              | (exfalso; simp (disch := omega) only [Int32.lt_iff_toInt_lt, Int32.le_iff_toInt_le, ← Int32.toInt_inj, Int32.reduceToInt, nI_toInt] at c1 c4 c3JVcanBeAimedAt m2MDisIn; done)
              | (exfalso; simp (disch := omega) only [Int32.lt_iff_toInt_lt, Int32.le_iff_toInt_le, ← Int32.toInt_inj, Int32.reduceToInt, nI_toInt] at c1 c4 c3JVcanBeAimedAt m2MDisIn; omega)
          · refine jr_iload rfl rfl ?_
            refine jr_iload rfl rfl ?_
            refine jr_icmp_gt rfl (fun m5MDisIn => ?_) (fun m5MDisIn => ?_)
            · refine jr_ic rfl ?_
              refine jr_zret rfl rfl rfl (Nat.zero_le _) (Nat.zero_le _) ?_
              refine jr_if_eq rfl (fun _ => ?_) (fun z => absurd (by decide) z)
              refine jr_ic rfl ?_
              refine jr_iret rfl rfl (Nat.zero_le _) (Nat.zero_le _) ?_
              first
                | (have q := jz_Rel_p (S := S1) (k := 0 + 1) (S' := fun x => jh_I hm x 0) hRel0 (fun _ _ => rfl); rw [jS_self] at q; exact ⟨rfl, q⟩)
                | exact ⟨rfl, (jz_Rel_p hRel0 hS3)⟩
                | exact ⟨rfl, (jz_Rel_p hRel0 hS2)⟩
                | exact ⟨rfl, hRel0⟩
                | (exfalso; omega)
                | (exfalso; simp (disch := omega) only [Int32.lt_iff_toInt_lt, Int32.le_iff_toInt_le, ← Int32.toInt_inj, Int32.reduceToInt, nI_toInt] at c1 c4 c3JVcanBeAimedAt m2MDisIn m5MDisIn; done)
                | (exfalso; simp (disch := omega) only [Int32.lt_iff_toInt_lt, Int32.le_iff_toInt_le, ← Int32.toInt_inj, Int32.reduceToInt, nI_toInt] at c1 c4 c3JVcanBeAimedAt m2MDisIn m5MDisIn; omega)
            · refine jr_ic rfl ?_
              refine jr_goto rfl ?_
              refine jr_zret rfl rfl rfl (Nat.zero_le _) (Nat.zero_le _) ?_
              refine jr_if_eq rfl (fun z => absurd z (by decide)) (fun _ => ?_)
              refine jr_aload rfl rfl ?_
              refine jr_iload rfl rfl ?_
              refine jr_cv1 (mc' := 0) (ms' := 0) rfl jm_MD_canTurnTo_n jm_MD_canTurnTo_f rfl rfl rfl rfl rfl rfl rfl (Nat.zero_le _) (Nat.zero_le _) ?_
              show jx_W (jm_MD_canTurnTo, _, _, _, _, _, _) _ 0 0 0 [some _, some _, none] [] _
              refine jr_aload rfl rfl ?_
              refine jr_cv0 (mc' := 0) (ms' := 0) rfl jm_MD_hasMonths_n jm_MD_hasMonths_f rfl rfl rfl rfl rfl rfl rfl (Nat.zero_le _) (Nat.zero_le _) ?_
              show jx_W (jm_MD_hasMonths, _, _, _, _, _, _) _ 0 0 0 [some _] [] _
              refine jr_aload rfl rfl ?_
              refine jr_getR rfl rfl rfl rfl (Or.inl rfl) ?_
              refine jr_aload rfl rfl ?_
              refine jr_getI rfl rfl ?_
              refine jr_iald (len := 2) rfl rfl hw.1 (by omega) ?_
              refine jr_if_le rfl (fun m5MDhasMonths => ?_) (fun m5MDhasMonths => ?_)
              · refine jr_ic rfl ?_
                refine jr_zret rfl rfl rfl (Nat.zero_le _) (Nat.zero_le _) ?_
                refine jr_if_eq rfl (fun _ => ?_) (fun z => absurd (by decide) z)
                refine jr_ic rfl ?_
                refine jr_zret rfl rfl rfl (Nat.zero_le _) (Nat.zero_le _) ?_
                refine jr_if_ne rfl (fun z => absurd (by decide) z) (fun _ => ?_)
                refine jr_ic rfl ?_
                refine jr_iret rfl rfl (Nat.zero_le _) (Nat.zero_le _) ?_
                first
                  | (have q := jz_Rel_p (S := S1) (k := 0 + 1) (S' := fun x => jh_I hm x 0) hRel0 (fun _ _ => rfl); rw [jS_self] at q; exact ⟨rfl, q⟩)
                  | exact ⟨rfl, (jz_Rel_p hRel0 hS3)⟩
                  | exact ⟨rfl, (jz_Rel_p hRel0 hS2)⟩
                  | exact ⟨rfl, hRel0⟩
                  | (exfalso; omega)
                  | (exfalso; simp (disch := omega) only [Int32.lt_iff_toInt_lt, Int32.le_iff_toInt_le, ← Int32.toInt_inj, Int32.reduceToInt, nI_toInt] at c1 c4 c3JVcanBeAimedAt m2MDisIn m5MDisIn m5MDhasMonths; done)
                  | (exfalso; simp (disch := omega) only [Int32.lt_iff_toInt_lt, Int32.le_iff_toInt_le, ← Int32.toInt_inj, Int32.reduceToInt, nI_toInt] at c1 c4 c3JVcanBeAimedAt m2MDisIn m5MDisIn m5MDhasMonths; omega)
              · refine jr_ic rfl ?_
                refine jr_goto rfl ?_
                refine jr_zret rfl rfl rfl (Nat.zero_le _) (Nat.zero_le _) ?_
                refine jr_if_eq rfl (fun z => absurd z (by decide)) (fun _ => ?_)
                refine jr_iload rfl rfl ?_
                refine jr_ic rfl ?_
                refine jr_ic rfl ?_
                refine jr_cs3 (mc' := 0) (ms' := 0) rfl jm_MD_isIn_n jm_MD_isIn_f rfl rfl rfl rfl rfl (Nat.zero_le _) (Nat.zero_le _) ?_
                show jx_W (jm_MD_isIn, _, _, _, _, _, _) _ 0 0 0 [some _, some _, some _] [] _
                refine jr_iload rfl rfl ?_
                refine jr_iload rfl rfl ?_
                refine jr_icmp_lt rfl (fun m2MDisIn_2 => ?_) (fun m2MDisIn_2 => ?_)
                · refine jr_ic rfl ?_
                  refine jr_zret rfl rfl rfl (Nat.zero_le _) (Nat.zero_le _) ?_
                  refine jr_if_ne rfl (fun z => absurd (by decide) z) (fun _ => ?_)
                  refine jr_ic rfl ?_
                  refine jr_zret rfl rfl rfl (Nat.zero_le _) (Nat.zero_le _) ?_
                  refine jr_if_ne rfl (fun z => absurd (by decide) z) (fun _ => ?_)
                  refine jr_ic rfl ?_
                  refine jr_iret rfl rfl (Nat.zero_le _) (Nat.zero_le _) ?_
                  first
                    | (have q := jz_Rel_p (S := S1) (k := 0 + 1) (S' := fun x => jh_I hm x 0) hRel0 (fun _ _ => rfl); rw [jS_self] at q; exact ⟨rfl, q⟩)
                    | exact ⟨rfl, (jz_Rel_p hRel0 hS3)⟩
                    | exact ⟨rfl, (jz_Rel_p hRel0 hS2)⟩
                    | exact ⟨rfl, hRel0⟩
                    | (exfalso; omega)
                    | (exfalso; simp (disch := omega) only [Int32.lt_iff_toInt_lt, Int32.le_iff_toInt_le, ← Int32.toInt_inj, Int32.reduceToInt, nI_toInt] at c1 c4 c3JVcanBeAimedAt m2MDisIn m5MDisIn m5MDhasMonths m2MDisIn_2; done)
                    | (exfalso; simp (disch := omega) only [Int32.lt_iff_toInt_lt, Int32.le_iff_toInt_le, ← Int32.toInt_inj, Int32.reduceToInt, nI_toInt] at c1 c4 c3JVcanBeAimedAt m2MDisIn m5MDisIn m5MDhasMonths m2MDisIn_2; omega)
                · refine jr_iload rfl rfl ?_
                  refine jr_iload rfl rfl ?_
                  refine jr_icmp_gt rfl (fun m5MDisIn_2 => ?_) (fun m5MDisIn_2 => ?_)
                  · refine jr_ic rfl ?_
                    refine jr_zret rfl rfl rfl (Nat.zero_le _) (Nat.zero_le _) ?_
                    refine jr_if_ne rfl (fun z => absurd (by decide) z) (fun _ => ?_)
                    refine jr_ic rfl ?_
                    refine jr_zret rfl rfl rfl (Nat.zero_le _) (Nat.zero_le _) ?_
                    refine jr_if_ne rfl (fun z => absurd (by decide) z) (fun _ => ?_)
                    refine jr_ic rfl ?_
                    refine jr_iret rfl rfl (Nat.zero_le _) (Nat.zero_le _) ?_
                    first
                      | (have q := jz_Rel_p (S := S1) (k := 0 + 1) (S' := fun x => jh_I hm x 0) hRel0 (fun _ _ => rfl); rw [jS_self] at q; exact ⟨rfl, q⟩)
                      | exact ⟨rfl, (jz_Rel_p hRel0 hS3)⟩
                      | exact ⟨rfl, (jz_Rel_p hRel0 hS2)⟩
                      | exact ⟨rfl, hRel0⟩
                      | (exfalso; omega)
                      | (exfalso; simp (disch := omega) only [Int32.lt_iff_toInt_lt, Int32.le_iff_toInt_le, ← Int32.toInt_inj, Int32.reduceToInt, nI_toInt] at c1 c4 c3JVcanBeAimedAt m2MDisIn m5MDisIn m5MDhasMonths m2MDisIn_2 m5MDisIn_2; done)
                      | (exfalso; simp (disch := omega) only [Int32.lt_iff_toInt_lt, Int32.le_iff_toInt_le, ← Int32.toInt_inj, Int32.reduceToInt, nI_toInt] at c1 c4 c3JVcanBeAimedAt m2MDisIn m5MDisIn m5MDhasMonths m2MDisIn_2 m5MDisIn_2; omega)
                  · refine jr_ic rfl ?_
                    refine jr_goto rfl ?_
                    refine jr_zret rfl rfl rfl (Nat.zero_le _) (Nat.zero_le _) ?_
                    refine jr_if_ne rfl (fun _ => ?_) (fun z => absurd z (by decide))
                    refine jr_aload rfl rfl ?_
                    refine jr_cv0 (mc' := 0) (ms' := 0) rfl jm_MD_layVotes_n jm_MD_layVotes_f rfl rfl rfl rfl rfl rfl rfl (Nat.zero_le _) (Nat.zero_le _) ?_
                    first
                      | (exfalso; omega)
                      | (exfalso; simp (disch := omega) only [Int32.lt_iff_toInt_lt, Int32.le_iff_toInt_le, ← Int32.toInt_inj, Int32.reduceToInt, nI_toInt] at c1 c4 c3JVcanBeAimedAt m2MDisIn m5MDisIn m5MDhasMonths m2MDisIn_2 m5MDisIn_2; done)
                      | (exfalso; simp (disch := omega) only [Int32.lt_iff_toInt_lt, Int32.le_iff_toInt_le, ← Int32.toInt_inj, Int32.reduceToInt, nI_toInt] at c1 c4 c3JVcanBeAimedAt m2MDisIn m5MDisIn m5MDhasMonths m2MDisIn_2 m5MDisIn_2; omega)

