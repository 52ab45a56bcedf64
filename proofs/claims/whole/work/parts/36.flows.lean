theorem jw_paid_0 {C : jw_C} {d l : Nat} : jw_paid C d (nI l) = jw_paid C d (nI l) := rfl
abbrev jw_gm (C : jw_C) (a : jw_A) (j : Nat) : Prop := C 10 j = jw_month C a ∧ ¬ ((a 36 >>> (nI j &&& 31)) &&& 1 = 1)
theorem jw_part_n {C : jw_C} {a : jw_A} {c j : Nat} {p l : Int32} (h : ¬ jw_gm C a j) : jw_part C a c p l (j + 1) = jw_part C a c p l j := jw_part_no (fun z => h ⟨z.1, z.2.1⟩)
theorem jw_part_s {C : jw_C} {a : jw_A} {c j : Nat} {p l : Int32} (h : jw_gm C a j) : jw_part C a c p l (j + 1) = if C c j = p then (if jw_paid C j l = 0 then jw_part C a c p l j else jw_part C a c p l j + C 8 j) else jw_part C a c p l j := by
  by_cases e : jw_paid C j l = 0
  · rw [jw_part_no (fun z => z.2.2 e), if_pos e, ite_self]
  · rw [if_neg e]
    by_cases e2 : C c j = p
    · rw [jw_part_yes ⟨h.1, h.2, e⟩ e2, if_pos e2]
    · rw [jw_part_zero ⟨h.1, h.2, e⟩ e2, if_neg e2, Int32.add_zero]
set_option maxHeartbeats 800000 in
set_option maxRecDepth 100000 in
theorem lp_addFlow40 {d n0 : Nat} {Q : Option jx_V → jx_H → Prop} {h hm : jx_H} {b r j x kc : Nat} {S0 : Nat → Nat → Int32} (S : Nat → Nat → Int32) (l : Nat) (hd : jy_due h r hm b j) (hx : x < 5) (hl : l ≤ 32) (hfr : ∀ a, a ≠ 40 → S a = S0 a) (h1 : ∀ q, q < l → S 40 (x * 32 + q) = if jw_paid (jC hm b) j (nI q) = 0 then S0 40 (x * 32 + q) else S0 40 (x * 32 + q) + jC hm b 8 j) (h2 : ∀ i, i < x * 32 ∨ x * 32 + l ≤ i → S 40 i = S0 40 i) (k : ∀ S' : Nat → Nat → Int32, (∀ a, a ≠ 40 → S' a = S0 a) → (∀ q, q < 32 → S' 40 (x * 32 + q) = if jw_paid (jC hm b) j (nI q) = 0 then S0 40 (x * 32 + q) else S0 40 (x * 32 + q) + jC hm b 8 j) → (∀ i, i < x * 32 ∨ x * 32 + 32 ≤ i → S' 40 i = S0 40 i) → Q none (jP h S' kc))  : jx_W (jm_Poll_addFlow, d + 2, 0, 0, false, 0, n0) Q 0 0 2 [some (jv_r 40 0), some (jv_i (nI x)), some (jv_r 2 (12 * r + j)), some (jv_i (nI l)), none] [] (jP h S kc) := by
  refine jr_iload rfl rfl ?_
  refine jr_ic rfl ?_
  refine jr_icmp_ge rfl (fun c4 => ?_) (fun c4 => ?_)
  · refine jr_vret rfl rfl (Nat.zero_le _) (Nat.zero_le _) ?_
    have hx1 : 32 ≤ l := jn_le (show nI 32 ≤ nI l from c4) (by omega) (by omega)
    exact k S hfr (fun q hq => h1 q (by omega)) (fun i hi => h2 i (by omega))
  · have hl1 : l < 32 := jn_nle (show ¬ nI 32 ≤ nI l from c4) (by omega) (by omega)
    have hpd : jy_pd h (12 * r + j) (nI l) = jw_paid (jC hm b) j (nI l) := jy_pd_eq hd
    refine jr_iload rfl rfl ?_
    refine jr_ic rfl ?_
    refine jr_imul rfl ?_
    refine jr_iload rfl rfl ?_
    refine jr_iadd rfl ?_
    rw [show nI x * 32 + nI l = nI (x * 32 + l) from jn_add (jn_mul rfl (jn_c 32)) rfl]
    refine jr_ist4 rfl rfl ?_
    refine jr_iload rfl rfl ?_
    refine jr_if_lt rfl (fun z => absurd z (nI_pos (show x * 32 + l < 2 ^ 31 by omega))) (fun _ => ?_)
    refine jr_iload rfl rfl ?_
    refine jr_aload rfl rfl ?_
    refine jr_alen (so := 1) (len := 160) rfl rfl rfl rfl ?_
    refine jr_icmp_ge rfl (fun z => absurd z (nI_ge (a := x * 32 + l) (b := 160) (by omega) (by decide))) (fun _ => ?_)
    refine jr_aload rfl rfl ?_
    refine jr_iload rfl rfl ?_
    refine jr_cv1 (mc' := 0) (ms' := 0) rfl jm_Due_dayPaid_n jm_Due_dayPaid_f rfl rfl rfl rfl rfl rfl rfl (Nat.zero_le _) (Nat.zero_le _) ?_
    refine ev_Due_dayPaid (nI_pos' (by omega)) ?_
    refine jr_if_eq rfl (fun c20 => ?_) (fun c20 => ?_)
    · refine jr_iinc3 rfl rfl ?_
      refine jr_goto rfl ?_
      rw [jn_S]
      refine jr_drop 4 (lp_addFlow40 S (l + 1) hd hx (by omega) hfr (fun q hq => ?_) (fun i hi => h2 i (by omega)) k)
      rcases Nat.lt_succ_iff_lt_or_eq.mp hq with e | e
      · exact h1 q e
      · rw [e, if_pos (hpd.symm.trans c20), h2 _ (by omega)]
    · refine jr_aload rfl rfl ?_
      refine jr_iload rfl rfl ?_
      refine jr_dup2 rfl ?_
      refine jr_iald (len := 160) rfl rfl rfl (by omega) ?_
      refine jr_aload rfl rfl ?_
      refine jr_getI rfl rfl ?_
      refine jr_iadd rfl ?_
      refine jr_iast (len := 160) rfl rfl rfl (by omega) ?_
      refine jr_iinc3 rfl rfl ?_
      refine jr_goto rfl ?_
      simp only [jP_40, jP_r40]
      rw [jn_S]
      refine jr_drop 4 (lp_addFlow40 _ (l + 1) hd hx (by omega) (fun a ha => (if_neg ha).trans (hfr a ha)) (fun q hq => ?_) (fun i hi => ?_) k)
      · show upd (S 40) (x * 32 + l) (S 40 (x * 32 + l) + jh_I h 2 (12 * r + j) 2) (x * 32 + q) = _
        rcases Nat.lt_succ_iff_lt_or_eq.mp hq with e | e
        · rw [jg_un (by omega)]; exact h1 q e
        · rw [e, jg_us, if_neg (fun z => c20 (hpd.trans z)), h2 _ (by omega), hd.2.2.1]
      · show upd (S 40) (x * 32 + l) _ i = _
        rw [jg_un (by omega)]; exact h2 i (by omega)
termination_by 32 - l
decreasing_by all_goals omega

set_option maxHeartbeats 800000 in
set_option maxRecDepth 100000 in
theorem ev_addFlow40 {d : Nat} {h : jx_H} {Q : Option jx_V → jx_H → Prop} {hm : jx_H} {b r j x kc : Nat} {S0 : Nat → Nat → Int32} (hd : jy_due h r hm b j) (hx : x < 5) (k : ∀ S' : Nat → Nat → Int32, (∀ a, a ≠ 40 → S' a = S0 a) → (∀ q, q < 32 → S' 40 (x * 32 + q) = if jw_paid (jC hm b) j (nI q) = 0 then S0 40 (x * 32 + q) else S0 40 (x * 32 + q) + jC hm b 8 j) → (∀ i, i < x * 32 ∨ x * 32 + 32 ≤ i → S' 40 i = S0 40 i) → Q none (jP h S' kc))  : jx_Ev jm_Poll_addFlow (d + 2) 0 0 false 0 [jv_r 40 0, jv_i (nI x), jv_r 2 (12 * r + j)] (jP h S0 kc) Q := by
  show jx_W (jm_Poll_addFlow, d + 2, 0, 0, false, 0, _) Q 0 0 0 [some (jv_r 40 0), some (jv_i (nI x)), some (jv_r 2 (12 * r + j)), none, none] [] _
  refine jr_ic rfl ?_
  refine jr_ist3 rfl rfl ?_
  exact lp_addFlow40 S0 0 hd hx (by omega) (fun _ _ => rfl) (fun q hq => absurd hq (by omega)) (fun _ _ => rfl) k

set_option maxHeartbeats 800000 in
set_option maxRecDepth 100000 in
theorem lp_addFlow41 {d n0 : Nat} {Q : Option jx_V → jx_H → Prop} {h hm : jx_H} {b r j x kc : Nat} {S0 : Nat → Nat → Int32} (S : Nat → Nat → Int32) (l : Nat) (hd : jy_due h r hm b j) (hx : x < 5) (hl : l ≤ 32) (hfr : ∀ a, a ≠ 41 → S a = S0 a) (h1 : ∀ q, q < l → S 41 (x * 32 + q) = if jw_paid (jC hm b) j (nI q) = 0 then S0 41 (x * 32 + q) else S0 41 (x * 32 + q) + jC hm b 8 j) (h2 : ∀ i, i < x * 32 ∨ x * 32 + l ≤ i → S 41 i = S0 41 i) (k : ∀ S' : Nat → Nat → Int32, (∀ a, a ≠ 41 → S' a = S0 a) → (∀ q, q < 32 → S' 41 (x * 32 + q) = if jw_paid (jC hm b) j (nI q) = 0 then S0 41 (x * 32 + q) else S0 41 (x * 32 + q) + jC hm b 8 j) → (∀ i, i < x * 32 ∨ x * 32 + 32 ≤ i → S' 41 i = S0 41 i) → Q none (jP h S' kc))  : jx_W (jm_Poll_addFlow, d + 2, 0, 0, false, 0, n0) Q 0 0 2 [some (jv_r 41 0), some (jv_i (nI x)), some (jv_r 2 (12 * r + j)), some (jv_i (nI l)), none] [] (jP h S kc) := by
  refine jr_iload rfl rfl ?_
  refine jr_ic rfl ?_
  refine jr_icmp_ge rfl (fun c4 => ?_) (fun c4 => ?_)
  · refine jr_vret rfl rfl (Nat.zero_le _) (Nat.zero_le _) ?_
    have hx1 : 32 ≤ l := jn_le (show nI 32 ≤ nI l from c4) (by omega) (by omega)
    exact k S hfr (fun q hq => h1 q (by omega)) (fun i hi => h2 i (by omega))
  · have hl1 : l < 32 := jn_nle (show ¬ nI 32 ≤ nI l from c4) (by omega) (by omega)
    have hpd : jy_pd h (12 * r + j) (nI l) = jw_paid (jC hm b) j (nI l) := jy_pd_eq hd
    refine jr_iload rfl rfl ?_
    refine jr_ic rfl ?_
    refine jr_imul rfl ?_
    refine jr_iload rfl rfl ?_
    refine jr_iadd rfl ?_
    rw [show nI x * 32 + nI l = nI (x * 32 + l) from jn_add (jn_mul rfl (jn_c 32)) rfl]
    refine jr_ist4 rfl rfl ?_
    refine jr_iload rfl rfl ?_
    refine jr_if_lt rfl (fun z => absurd z (nI_pos (show x * 32 + l < 2 ^ 31 by omega))) (fun _ => ?_)
    refine jr_iload rfl rfl ?_
    refine jr_aload rfl rfl ?_
    refine jr_alen (so := 1) (len := 160) rfl rfl rfl rfl ?_
    refine jr_icmp_ge rfl (fun z => absurd z (nI_ge (a := x * 32 + l) (b := 160) (by omega) (by decide))) (fun _ => ?_)
    refine jr_aload rfl rfl ?_
    refine jr_iload rfl rfl ?_
    refine jr_cv1 (mc' := 0) (ms' := 0) rfl jm_Due_dayPaid_n jm_Due_dayPaid_f rfl rfl rfl rfl rfl rfl rfl (Nat.zero_le _) (Nat.zero_le _) ?_
    refine ev_Due_dayPaid (nI_pos' (by omega)) ?_
    refine jr_if_eq rfl (fun c20 => ?_) (fun c20 => ?_)
    · refine jr_iinc3 rfl rfl ?_
      refine jr_goto rfl ?_
      rw [jn_S]
      refine jr_drop 4 (lp_addFlow41 S (l + 1) hd hx (by omega) hfr (fun q hq => ?_) (fun i hi => h2 i (by omega)) k)
      rcases Nat.lt_succ_iff_lt_or_eq.mp hq with e | e
      · exact h1 q e
      · rw [e, if_pos (hpd.symm.trans c20), h2 _ (by omega)]
    · refine jr_aload rfl rfl ?_
      refine jr_iload rfl rfl ?_
      refine jr_dup2 rfl ?_
      refine jr_iald (len := 160) rfl rfl rfl (by omega) ?_
      refine jr_aload rfl rfl ?_
      refine jr_getI rfl rfl ?_
      refine jr_iadd rfl ?_
      refine jr_iast (len := 160) rfl rfl rfl (by omega) ?_
      refine jr_iinc3 rfl rfl ?_
      refine jr_goto rfl ?_
      simp only [jP_41, jP_r41]
      rw [jn_S]
      refine jr_drop 4 (lp_addFlow41 _ (l + 1) hd hx (by omega) (fun a ha => (if_neg ha).trans (hfr a ha)) (fun q hq => ?_) (fun i hi => ?_) k)
      · show upd (S 41) (x * 32 + l) (S 41 (x * 32 + l) + jh_I h 2 (12 * r + j) 2) (x * 32 + q) = _
        rcases Nat.lt_succ_iff_lt_or_eq.mp hq with e | e
        · rw [jg_un (by omega)]; exact h1 q e
        · rw [e, jg_us, if_neg (fun z => c20 (hpd.trans z)), h2 _ (by omega), hd.2.2.1]
      · show upd (S 41) (x * 32 + l) _ i = _
        rw [jg_un (by omega)]; exact h2 i (by omega)
termination_by 32 - l
decreasing_by all_goals omega

set_option maxHeartbeats 800000 in
set_option maxRecDepth 100000 in
theorem ev_addFlow41 {d : Nat} {h : jx_H} {Q : Option jx_V → jx_H → Prop} {hm : jx_H} {b r j x kc : Nat} {S0 : Nat → Nat → Int32} (hd : jy_due h r hm b j) (hx : x < 5) (k : ∀ S' : Nat → Nat → Int32, (∀ a, a ≠ 41 → S' a = S0 a) → (∀ q, q < 32 → S' 41 (x * 32 + q) = if jw_paid (jC hm b) j (nI q) = 0 then S0 41 (x * 32 + q) else S0 41 (x * 32 + q) + jC hm b 8 j) → (∀ i, i < x * 32 ∨ x * 32 + 32 ≤ i → S' 41 i = S0 41 i) → Q none (jP h S' kc))  : jx_Ev jm_Poll_addFlow (d + 2) 0 0 false 0 [jv_r 41 0, jv_i (nI x), jv_r 2 (12 * r + j)] (jP h S0 kc) Q := by
  show jx_W (jm_Poll_addFlow, d + 2, 0, 0, false, 0, _) Q 0 0 0 [some (jv_r 41 0), some (jv_i (nI x)), some (jv_r 2 (12 * r + j)), none, none] [] _
  refine jr_ic rfl ?_
  refine jr_ist3 rfl rfl ?_
  exact lp_addFlow41 S0 0 hd hx (by omega) (fun _ _ => rfl) (fun q hq => absurd hq (by omega)) (fun _ _ => rfl) k

set_option maxHeartbeats 800000 in
set_option maxRecDepth 100000 in
theorem lp_fillFlows2 {d n0 : Nat} {Q : Option jx_V → jx_H → Prop} {h hm : jx_H} {b c r : Nat} {S0 : Nat → Nat → Int32} (S : Nat → Nat → Int32) (j : Nat) (hw : jz_W hm b) (hA : jy_A h c r (jA hm)) (hR : jy_R h r hm b) (hmo : S0 5 7 = jw_month (jC hm b) (jA hm)) (hj : j ≤ jz_nd hm b) (hfr : ∀ a, a ≠ 40 → a ≠ 41 → S a = S0 a) (hF : ∀ p l, p < 5 → l < 32 → S 40 (p * 32 + l) = jw_part (jC hm b) (jA hm) 7 (nI p) (nI l) j ∧ S 41 (p * 32 + l) = jw_part (jC hm b) (jA hm) 6 (nI p) (nI l) j) (k : ∀ S' : Nat → Nat → Int32, (∀ a, a ≠ 40 → a ≠ 41 → S' a = S0 a) → (∀ p l, p < 5 → l < 32 → S' 40 (p * 32 + l) = jw_part (jC hm b) (jA hm) 7 (nI p) (nI l) (jz_nd hm b) ∧ S' 41 (p * 32 + l) = jw_part (jC hm b) (jA hm) 6 (nI p) (nI l) (jz_nd hm b)) → Q none (jP h S' (c + 1)))  : jx_W (jm_Poll_fillFlows, d + 3, 0, 0, false, 0, n0) Q 0 0 26 [some (jv_r 5 0), some (jv_i (nI j)), none] [] (jP h S (c + 1)) := by
  have hnd := hw.2.2.1.2.2.1
  have hnd5 := hnd.2
  have hnp5 := hw.2.2.1.2.1.2
  have hnm5 := hw.2.2.1.1.2
  refine jr_iload rfl rfl ?_
  refine jr_aload rfl rfl ?_
  refine jr_getM rfl rfl rfl rfl rfl ?_
  refine jr_getM rfl rfl rfl rfl hA.1 ?_
  refine jr_getI rfl rfl ?_
  rw [show jh_I (jP h S (c + 1)) 7 r 5 = nI (jz_nd hm b) from hR.2.2.1.trans hnd.1]
  refine jr_icmp_ge rfl (fun c31 => ?_) (fun c31 => ?_)
  · refine jr_vret rfl rfl (Nat.zero_le _) (Nat.zero_le _) ?_
    have hj2 : j = jz_nd hm b := by have := jn_le (show nI (jz_nd hm b) ≤ nI j from c31) (by omega) (by omega); omega
    subst hj2
    exact k S hfr hF
  · have hj1 : j < jz_nd hm b := jn_nle (show ¬ nI (jz_nd hm b) ≤ nI j from c31) (by omega) (by omega)
    have hdue := hR.2.2.2.2.2.1 j hj1
    obtain ⟨x, y, z, u, m, hx, hy, -, -, -, hx1, hy1, -⟩ := hw.2.2.1.2.2.2.2.1 j hj1
    refine jr_iload rfl rfl ?_
    refine jr_ic rfl ?_
    refine jr_icmp_ge rfl (fun z => absurd z (nI_ge (a := j) (b := 12) (by omega) (by decide))) (fun _ => ?_)
    refine jr_aload rfl rfl ?_
    refine jr_getM rfl rfl rfl rfl rfl ?_
    refine jr_getM rfl rfl rfl rfl hA.1 ?_
    refine jr_iload rfl rfl ?_
    refine jr_cv1 (mc' := 0) (ms' := 0) rfl jm_Rep_dueAt_n jm_Rep_dueAt_f rfl rfl rfl rfl rfl rfl rfl (Nat.zero_le _) (Nat.zero_le _) ?_
    refine ev_Rep_dueAt (by omega) ?_
    refine jr_ast2 rfl rfl ?_
    refine jr_aload rfl rfl ?_
    refine jr_getI rfl rfl ?_
    refine jr_aload rfl rfl ?_
    refine jr_getI rfl rfl ?_
    rw [show jh_I (jP h S (c + 1)) 2 (12 * r + j) 4 = jC hm b 10 j from hdue.2.2.2.2.1, show jh_I (jP h S (c + 1)) 5 0 7 = jw_month (jC hm b) (jA hm) from (congrFun (hfr 5 (by decide) (by decide)) 7).trans hmo]
    refine jr_icmp_ne rfl (fun c45 => ?_) (fun c45 => ?_)
    · refine jr_iinc1 rfl rfl ?_
      refine jr_goto rfl ?_
      rw [jn_S]
      refine jr_drop 2 (lp_fillFlows2 S (j + 1) hw hA hR hmo (by omega) hfr (fun p l hp hl => ?_) k)
      rw [jw_part_n (fun z => c45 z.1), jw_part_n (fun z => c45 z.1)]
      exact hF p l hp hl
    · refine jr_aload rfl rfl ?_
      refine jr_getM rfl rfl rfl rfl rfl ?_
      refine jr_getR rfl rfl rfl rfl (Or.inl rfl) ?_
      refine jr_iload rfl rfl ?_
      refine jr_zald (len := 12) rfl rfl rfl (by omega) ?_
      rw [show jh_I (jP h S (c + 1)) 36 c j = (jA hm 36 >>> (nI j &&& 31)) &&& 1 from (hA.2.2.2.2 j (by omega)).2.2]
      refine jr_if_ne rfl (fun c51 => ?_) (fun c51 => ?_)
      · refine jr_iinc1 rfl rfl ?_
        refine jr_goto rfl ?_
        have hno : ¬ jw_gm (jC hm b) (jA hm) j := by
          rintro ⟨-, z⟩
          rw [jy_s_bt (by omega)] at z c51
          split at c51
          · rename_i e; exact z (if_pos e)
          · exact c51 rfl
        rw [jn_S]
        refine jr_drop 2 (lp_fillFlows2 S (j + 1) hw hA hR hmo (by omega) hfr (fun p l hp hl => ?_) k)
        rw [jw_part_n hno, jw_part_n hno]
        exact hF p l hp hl
      · refine jr_aload rfl rfl ?_
        refine jr_getR rfl rfl rfl rfl (Or.inl rfl) ?_
        refine jr_aload rfl rfl ?_
        refine jr_getI rfl rfl ?_
        refine jr_aload rfl rfl ?_
        rw [show jh_I (jP h S (c + 1)) 2 (12 * r + j) 1 = nI y from hdue.2.1.trans hy]
        refine jr_cs3 (mc' := 0) (ms' := 0) rfl jm_Poll_addFlow_n jm_Poll_addFlow_f rfl rfl rfl rfl rfl (Nat.zero_le _) (Nat.zero_le _) ?_
        refine ev_addFlow40 hdue (by omega) (fun S1 f1 g1 g2 => ?_)
        refine jr_aload rfl rfl ?_
        refine jr_getR rfl rfl rfl rfl (Or.inl rfl) ?_
        refine jr_aload rfl rfl ?_
        refine jr_getI rfl rfl ?_
        refine jr_aload rfl rfl ?_
        rw [show jh_I (jP h S1 (c + 1)) 2 (12 * r + j) 0 = nI x from hdue.1.trans hx]
        refine jr_cs3 (mc' := 0) (ms' := 0) rfl jm_Poll_addFlow_n jm_Poll_addFlow_f rfl rfl rfl rfl rfl (Nat.zero_le _) (Nat.zero_le _) ?_
        refine ev_addFlow41 hdue (by omega) (fun S2 f2 g3 g4 => ?_)
        refine jr_iinc1 rfl rfl ?_
        refine jr_goto rfl ?_
        have hgm : jw_gm (jC hm b) (jA hm) j := ⟨c45, by rw [c51]; decide⟩
        rw [jn_S]
        refine jr_drop 2 (lp_fillFlows2 S2 (j + 1) hw hA hR hmo (by omega) (fun a h1 h2 => (f2 a h2).trans ((f1 a h1).trans (hfr a h1 h2))) (fun p l hp hl => ?_) k)
        rw [jw_part_s hgm, jw_part_s hgm, hx, hy]
        obtain ⟨e1, e2⟩ := hF p l hp hl
        constructor
        · rw [f2 40 (by decide)]
          by_cases e : y = p
          · subst e
            rw [if_pos rfl, g1 l hl, e1]
          · rw [if_neg (fun z => e (jn_eq z (by omega) (by omega))), g2 _ (by omega), e1]
        · by_cases e : x = p
          · subst e
            rw [if_pos rfl, g3 l hl, f1 41 (by decide), e2]
          · rw [if_neg (fun z => e (jn_eq z (by omega) (by omega))), g4 _ (by omega), f1 41 (by decide), e2]
termination_by jz_nd hm b - j
decreasing_by all_goals omega

set_option maxHeartbeats 800000 in
set_option maxRecDepth 100000 in
theorem lp_fillFlows1 {d n0 : Nat} {Q : Option jx_V → jx_H → Prop} {h hm : jx_H} {b c r : Nat} {S0 : Nat → Nat → Int32} (S : Nat → Nat → Int32) (j : Nat) (hw : jz_W hm b) (hA : jy_A h c r (jA hm)) (hR : jy_R h r hm b) (hmo : S0 5 7 = jw_month (jC hm b) (jA hm)) (hj : j ≤ 160) (hfr : ∀ a, a ≠ 40 → a ≠ 41 → S a = S0 a) (hF : ∀ i, i < j → S 40 i = 0 ∧ S 41 i = 0) (k : ∀ S' : Nat → Nat → Int32, (∀ a, a ≠ 40 → a ≠ 41 → S' a = S0 a) → (∀ p l, p < 5 → l < 32 → S' 40 (p * 32 + l) = jw_part (jC hm b) (jA hm) 7 (nI p) (nI l) (jz_nd hm b) ∧ S' 41 (p * 32 + l) = jw_part (jC hm b) (jA hm) 6 (nI p) (nI l) (jz_nd hm b)) → Q none (jP h S' (c + 1)))  : jx_W (jm_Poll_fillFlows, d + 3, 0, 0, false, 0, n0) Q 0 0 2 [some (jv_r 5 0), some (jv_i (nI j)), none] [] (jP h S (c + 1)) := by
  refine jr_iload rfl rfl ?_
  refine jr_aload rfl rfl ?_
  refine jr_getR rfl rfl rfl rfl (Or.inl rfl) ?_
  refine jr_alen (so := 1) (len := 160) rfl rfl rfl rfl ?_
  refine jr_icmp_ge rfl (fun c6 => ?_) (fun c6 => ?_)
  · refine jr_ic rfl ?_
    refine jr_ist1 rfl rfl ?_
    have hx1 : 160 ≤ j := jn_le (show nI 160 ≤ nI j from c6) (by omega) (by omega)
    exact lp_fillFlows2 S 0 hw hA hR hmo (Nat.zero_le _) hfr (fun p l hp hl => hF _ (by omega)) k
  · have hl1 : j < 160 := jn_nle (show ¬ nI 160 ≤ nI j from c6) (by omega) (by omega)
    refine jr_iload rfl rfl ?_
    refine jr_aload rfl rfl ?_
    refine jr_getR rfl rfl rfl rfl (Or.inl rfl) ?_
    refine jr_alen (so := 1) (len := 160) rfl rfl rfl rfl ?_
    refine jr_icmp_ge rfl (fun z => absurd z (nI_ge (a := j) (b := 160) hl1 (by decide))) (fun _ => ?_)
    refine jr_aload rfl rfl ?_
    refine jr_getR rfl rfl rfl rfl (Or.inl rfl) ?_
    refine jr_iload rfl rfl ?_
    refine jr_ic rfl ?_
    refine jr_iast (len := 160) rfl rfl rfl (by omega) ?_
    refine jr_aload rfl rfl ?_
    refine jr_getR rfl rfl rfl rfl (Or.inl rfl) ?_
    refine jr_iload rfl rfl ?_
    refine jr_ic rfl ?_
    refine jr_iast (len := 160) rfl rfl rfl (by omega) ?_
    refine jr_iinc1 rfl rfl ?_
    refine jr_goto rfl ?_
    simp only [jP_40, jP_r40, jP_41, jP_r41]
    rw [jn_S]
    refine lp_fillFlows1 _ (j + 1) hw hA hR hmo (by omega) (fun a h1 h2 => (if_neg h2).trans ((if_neg h1).trans (hfr a h1 h2))) (fun i hi => ?_) k
    show upd (S 40) j 0 i = 0 ∧ upd (S 41) j 0 i = 0
    by_cases e : i = j
    · rw [e, jg_us, jg_us]; exact ⟨rfl, rfl⟩
    · rw [jg_un e, jg_un e]; exact hF i (by omega)
termination_by 160 - j
decreasing_by all_goals omega

set_option maxHeartbeats 800000 in
set_option maxRecDepth 100000 in
theorem ev_Poll_fillFlows {d : Nat} {h : jx_H} {Q : Option jx_V → jx_H → Prop} {hm : jx_H} {b c r : Nat} {S0 : Nat → Nat → Int32} (hw : jz_W hm b) (hA : jy_A h c r (jA hm)) (hR : jy_R h r hm b) (hmo : S0 5 7 = jw_month (jC hm b) (jA hm)) (k : ∀ S' : Nat → Nat → Int32, (∀ a, a ≠ 40 → a ≠ 41 → S' a = S0 a) → (∀ p l, p < 5 → l < 32 → S' 40 (p * 32 + l) = jw_part (jC hm b) (jA hm) 7 (nI p) (nI l) (jz_nd hm b) ∧ S' 41 (p * 32 + l) = jw_part (jC hm b) (jA hm) 6 (nI p) (nI l) (jz_nd hm b)) → Q none (jP h S' (c + 1)))  : jx_Ev jm_Poll_fillFlows (d + 3) 0 0 false 0 [jv_r 5 0] (jP h S0 (c + 1)) Q := by
  show jx_W (jm_Poll_fillFlows, d + 3, 0, 0, false, 0, _) Q 0 0 0 [some (jv_r 5 0), none, none] [] _
  refine jr_ic rfl ?_
  refine jr_ist1 rfl rfl ?_
  exact lp_fillFlows1 S0 0 hw hA hR hmo (Nat.zero_le _) (fun _ _ _ => rfl) (fun i hi => absurd hi (by omega)) k

