abbrev jw_h (hm : jx_H) (a : jw_A) : jx_H := ju_I hm 98 0 a
def jw_nx (hm : jx_H) (b : Nat) (a : jw_A) : jw_A := jw_gb (jC hm b) (jz_nd hm b) (jw_counted (jw_h hm a) b) a
def jw_nxs (hm : jx_H) (b : Nat) : Nat → jw_A → jw_A
  | 0, a => a
  | n + 1, a => jw_nx hm b (jw_nxs hm b n a)
theorem jz_W_B {hm : jx_H} {b : Nat} (hw : jz_W hm b) : jz_B hm b := ⟨hw.1, hw.2.1, hw.2.2.1⟩
theorem jz_Wa {hm : jx_H} {b : Nat} {a : jw_A} (hB : jz_B hm b) (hA : jz_A (jz_np hm b) (jz_nm hm b) a) : jz_W (jw_h hm a) b := ⟨hB.1, hB.2.1, hB.2.2, hA⟩
theorem jz_nm0 {hm : jx_H} {b : Nat} (hR0 : jz_R hm b) (hmo : ¬ jC hm b 0 0 = 0) : 0 < jz_nm hm b := by
  rcases Nat.eq_zero_or_pos (jz_nm hm b) with e | e
  · have := hR0.1.1; rw [e] at this; exact absurd this hmo
  · exact e
theorem jz_A_gb {hm : jx_H} {b w v : Nat} {a : jw_A} (hR0 : jz_R hm b) (hmo : ¬ jC hm b 0 0 = 0) (hA : jz_A (jz_np hm b) (jz_nm hm b) a) (hw : a 0 = nI w) (hw2 : w + 1 ≤ 511) (hv : v ≤ 31) :
    jz_A (jz_np hm b) (jz_nm hm b) (jw_gb (jC hm b) (jz_nd hm b) (nI v) a) ∧ jw_gb (jC hm b) (jz_nd hm b) (nI v) a 0 = nI (w + 1) := by
  obtain ⟨⟨w', t, h0, h1, h2, h3, h4⟩, h5⟩ := hA
  have e : w' = w := jn_eq (h0.symm.trans hw) (by omega) (by omega)
  subst e
  have e0 : jw_gb (jC hm b) (jz_nd hm b) (nI v) a 0 = nI (w' + 1) := by rw [jw_gb_x hR0, if_pos rfl, h0, ← nI_1]
  refine ⟨⟨⟨w' + 1, t + v, e0, ?_, hw2, by omega, fun z => absurd (jz_nm0 hR0 hmo) (by omega)⟩, fun p hp => ?_⟩, e0⟩
  · rw [jw_gb_x hR0, if_neg (by decide), if_pos rfl, h1, nI_add]
  · have := hR0.2.1.2
    rw [jw_gb_hi hR0 (by omega)]
    exact h5 p hp
theorem jz_nxs {hm : jx_H} {b w : Nat} {a : jw_A} (hB : jz_B hm b) (hmo : ¬ jC hm b 0 0 = 0) (hA : jz_A (jz_np hm b) (jz_nm hm b) a) (hw : a 0 = nI w) : ∀ {n : Nat}, w + n ≤ 511 → jz_A (jz_np hm b) (jz_nm hm b) (jw_nxs hm b n a) ∧ jw_nxs hm b n a 0 = nI (w + n)
  | 0, _ => ⟨hA, hw⟩
  | n + 1, h => by
    obtain ⟨i1, i2⟩ := jz_nxs hB hmo hA hw (n := n) (by omega)
    obtain ⟨v, hv, hv2⟩ := jw_counted_in (jz_Wa hB i1) hmo
    rw [jw_nxs, jw_nx, hv]
    exact jz_A_gb hB.2.2 hmo i1 i2 (by omega) hv2
theorem jw_nxs_hi {hm : jx_H} {b : Nat} {a : jw_A} (hR0 : jz_R hm b) {x : Nat} (hx : (7 ≤ x ∧ x < 12) ∨ 36 ≤ x) : ∀ {n : Nat}, jw_nxs hm b n a x = a x
  | 0 => rfl
  | n + 1 => by rw [jw_nxs, jw_nx, jw_gb_hi hR0 hx, jw_nxs_hi hR0 hx]
theorem jw_del_l {C : jw_C} {mo fg l : Int32} {b : Nat} {h : jx_H} (hR0 : jz_R h b) (hC : C = jC h b) : ∀ {n x : Nat}, n ≤ jz_nd h b → 24 + n ≤ x → jw_del C mo fg l n x = 0
  | 0, _, _, _ => rfl
  | n + 1, x, hn, hx => by
    have hnd := hR0.2.2.1.2
    have hnp := hR0.2.1.2
    obtain ⟨y, z, u, v, m, hy, hz, -, -, -, hy1, hz1, -⟩ := hR0.2.2.2.2.1 n (by omega)
    rw [jw_del, jw_del_l hR0 hC (by omega) (by omega), Int32.zero_add]
    subst hC
    by_cases g : jC h b 10 n = mo ∧ ¬ ((fg >>> (nI n &&& 31)) &&& 1 = 1)
    · by_cases p : jw_paid (jC h b) n l = 0
      · rw [jw_d1_l g p, if_neg (by omega)]
      · rw [jw_d1_p g p hy hz (by omega) (by omega), if_neg (by omega), if_neg (by omega), if_neg (by omega)]
    · exact jw_d1_n g
theorem jw_nxs_l {hm : jx_H} {b : Nat} {a : jw_A} (hR0 : jz_R hm b) {d : Nat} (hd : jz_nd hm b ≤ d) : ∀ {n : Nat}, jw_nxs hm b n a (24 + d) = a (24 + d)
  | 0 => rfl
  | n + 1 => by
    rw [jw_nxs, jw_nx, jw_gb_x hR0, if_neg (by omega), if_neg (by omega), show jw_dx hm b _ _ (24 + d) = 0 from jw_del_l hR0 rfl (Nat.le_refl _) (by omega), Int32.add_zero, jw_nxs_l hR0 hd]
set_option maxHeartbeats 800000 in
set_option maxRecDepth 100000 in
theorem lp_MD_ahead {d n0 : Nat} {Q : Option jx_V → jx_H → Prop} {S9 : Nat → Int32} {hm : jx_H} {b n w : Nat} {a0 : jw_A} {y z u : Int32} (S : Nat → Nat → Int32) (k : Nat) (hB : jz_B hm b) (hS : jz_S hm S) (hmo : ¬ jC hm b 0 0 = 0) (hA : jz_A (jz_np hm b) (jz_nm hm b) a0) (hw : a0 0 = nI w) (hk : k ≤ n) (hn : w + n ≤ 511) (hfr : S 99 = S9)
  (kk : ∀ S' : Nat → Nat → Int32, jz_S hm S' → S' 99 = S9 → ∀ v : Option jx_V, jx_W (jm_MD_ahead, d + 30, 0, 0, false, 1, n0) Q 0 0 38 [some (jv_r 11 0), some (jv_i (nI n)), some (jv_i y), some (jv_i z), some (jv_i u), none] [] (jS (jw_h hm (jw_nxs hm b n a0)) S')) : jx_W (jm_MD_ahead, d + 30, 0, 0, false, 1, n0) Q 0 0 29 [some (jv_r 11 0), some (jv_i (nI n)), some (jv_i y), some (jv_i z), some (jv_i u), some (jv_i (nI k))] [] (jS (jw_h hm (jw_nxs hm b k a0)) S) := by
  obtain ⟨hA1, hw1⟩ := jz_nxs hB hmo hA hw (n := k) (by omega)
  refine jr_iload rfl rfl ?_
  refine jr_iload rfl rfl ?_
  refine jr_icmp_ge rfl (fun c31 => ?_) (fun c31 => ?_)
  · have hk2 : k = n := by have := jn_le (show nI n ≤ nI k from c31) (by omega) (by omega); omega
    subst hk2
    exact jr_drop 5 (kk S hS hfr none)
  · have hk1 : k < n := jn_nle (show ¬ nI n ≤ nI k from c31) (by omega) (by omega)
    refine jr_aload rfl rfl ?_
    refine jr_aload rfl rfl ?_
    refine jr_cv0 (mc' := 0) (ms' := 0) rfl jm_MD_countedNow_n jm_MD_countedNow_f rfl rfl rfl rfl rfl rfl rfl (Nat.zero_le _) (Nat.zero_le _) ?_
    refine eS_countedNow (b := b) (jz_Wa hB hA1) hS hmo (fun S1 hS1 hf1 => ?_)
    refine jr_cv1 (mc' := 0) (ms' := 0) rfl jm_MD_goesBy_n jm_MD_goesBy_f rfl rfl rfl rfl rfl rfl rfl (Nat.zero_le _) (Nat.zero_le _) ?_
    refine eS_goesBy (b := b) (h := hm) hB hS1 hmo ?_
    refine jr_iinc5 rfl rfl ?_
    refine jr_goto rfl ?_
    rw [jn_S]
    exact lp_MD_ahead S1 (k + 1) hB hS1 hmo hA hw (by omega) hn ((hf1 99 (by decide) (by decide) (by decide) (by decide) (by decide)).trans hfr) kk
termination_by n - k
decreasing_by all_goals omega

set_option maxHeartbeats 800000 in
set_option maxRecDepth 100000 in
theorem lp_MD_lapses {d n0 : Nat} {Q : Option jx_V → jx_H → Prop} {hm : jx_H} {b : Nat} {a : jw_A} {S : Nat → Nat → Int32} (j : Nat) (hB : jz_B hm b) (hS : jz_S hm S) (hj : j ≤ jz_nd hm b) (hQ : Q (some (jv_i (jw_sum (fun d => a (24 + d)) (jz_nd hm b)))) (jS (jw_h hm a) S))  : jx_W (jm_MD_lapsesSoFar, d + 1, 0, 0, false, 1, n0) Q 0 0 4 [some (jv_r 11 0), some (jv_i (jw_sum (fun d => a (24 + d)) j)), some (jv_i (nI j))] [] (jS (jw_h hm a) S) := by
  have hb2 := hB.2.1
  have hnd := hB.2.2.2.2.1
  have hnd5 := hnd.2
  refine jr_iload rfl rfl ?_
  refine jr_aload rfl rfl ?_
  refine jr_cv0 (mc' := 0) (ms' := 0) rfl jm_MD_dueMany_n jm_MD_dueMany_f rfl rfl rfl rfl rfl rfl rfl (Nat.zero_le _) (Nat.zero_le _) ?_
  show jx_W (jm_MD_dueMany, _, _, _, _, _, _) _ 0 0 0 [some _] [] _
  refine jr_aload rfl rfl ?_
  refine jr_getR rfl rfl rfl rfl (Or.inl rfl) ?_
  refine jr_aload rfl rfl ?_
  refine jr_getI rfl rfl ?_
  refine jr_iald (len := 2) rfl rfl (jz_bankB hB hS) (by omega) ?_
  refine jr_iret rfl rfl (Nat.zero_le _) (Nat.zero_le _) ?_
  rw [show jh_I (jS (jw_h hm a) S) 68 0 b = nI (jz_nd hm b) from hnd.1]
  refine jr_icmp_ge rfl (fun c7 => ?_) (fun c7 => ?_)
  · refine jr_iload rfl rfl ?_
    refine jr_iret rfl rfl (Nat.zero_le _) (Nat.zero_le _) ?_
    have hj2 : j = jz_nd hm b := by have := jn_le (show nI (jz_nd hm b) ≤ nI j from c7) (by omega) (by omega); omega
    subst hj2
    exact hQ
  · have hj1 : j < jz_nd hm b := jn_nle (show ¬ nI (jz_nd hm b) ≤ nI j from c7) (by omega) (by omega)
    refine jr_iload rfl rfl ?_
    refine jr_aload rfl rfl ?_
    refine jr_getR rfl rfl rfl rfl (Or.inl rfl) ?_
    refine jr_ic rfl ?_
    refine jr_iload rfl rfl ?_
    refine jr_iadd rfl ?_
    refine jr_iald (len := 337) rfl rfl (jn_add (show _ = nI 24 from rfl) rfl) (by omega) ?_
    refine jr_iadd rfl ?_
    refine jr_ist1 rfl rfl ?_
    refine jr_iinc2 rfl rfl ?_
    refine jr_goto rfl ?_
    rw [jn_S]
    exact lp_MD_lapses (j + 1) hB hS (by omega) hQ
termination_by jz_nd hm b - j
decreasing_by all_goals omega

set_option maxHeartbeats 800000 in
set_option maxRecDepth 100000 in
theorem eS_lapses {d : Nat} {hm : jx_H} {Q : Option jx_V → jx_H → Prop} {b : Nat} {a : jw_A} {S : Nat → Nat → Int32} (hB : jz_B hm b) (hS : jz_S hm S) (hQ : Q (some (jv_i (jw_sum (fun d => a (24 + d)) (jz_nd hm b)))) (jS (jw_h hm a) S))  : jx_Ev jm_MD_lapsesSoFar (d + 1) 0 0 false 1 [jv_r 11 0] (jS (jw_h hm a) S) Q := by
  show jx_W (jm_MD_lapsesSoFar, d + 1, 0, 0, false, 1, _) Q 0 0 0 [some (jv_r 11 0), none, none] [] _
  refine jr_ic rfl ?_
  refine jr_ist1 rfl rfl ?_
  refine jr_ic rfl ?_
  refine jr_ist2 rfl rfl ?_
  exact lp_MD_lapses 0 hB hS (Nat.zero_le _) hQ

set_option maxHeartbeats 800000 in
set_option maxRecDepth 100000 in
theorem lp_For_stepFrom {d n0 : Nat} {Q : Option jx_V → jx_H → Prop} {h hm : jx_H} {b r n w kc : Nat} {a0 : jw_A} {S T : Nat → Nat → Int32} (k : Nat) (hB : jz_B hm b) (hmo : ¬ jC hm b 0 0 = 0) (hR : jy_R h r hm b) (hA : jz_A (jz_np hm b) (jz_nm hm b) a0) (hw : a0 0 = nI w) (hk : k ≤ n) (hn : w + n ≤ 511) (hT : jy_T (jy_np h r) T (jw_nxs hm b k a0))
  (kk : ∀ T' S' : Nat → Nat → Int32, ∀ kc' : Nat, jy_T (jy_np h r) T' (jw_nxs hm b n a0) → Q none (jP (jK h 4 T' (r + 1)) S' kc'))  : jx_W (jm_For_stepFrom, d + 7, 0, 0, false, 0, n0) Q 0 0 6 [some (jv_r 3 0), some (jv_r 1 0), some (jv_i (nI n)), some (jv_i (nI k))] [] (jP (jK h 4 T (r + 1)) S kc) := by
  obtain ⟨hA1, hw1⟩ := jz_nxs hB hmo hA hw (n := k) (by omega)
  refine jr_iload rfl rfl ?_
  refine jr_iload rfl rfl ?_
  refine jr_icmp_ge rfl (fun c8 => ?_) (fun c8 => ?_)
  · refine jr_vret rfl rfl (Nat.zero_le _) (Nat.zero_le _) ?_
    have hk2 : k = n := by have := jn_le (show nI n ≤ nI k from c8) (by omega) (by omega); omega
    subst hk2
    exact kk T S kc hT
  · have hk1 : k < n := jn_nle (show ¬ nI n ≤ nI k from c8) (by omega) (by omega)
    refine jr_aload rfl rfl ?_
    refine jr_getR rfl rfl rfl rfl (Or.inl rfl) ?_
    refine jr_aload rfl rfl ?_
    refine jr_getR rfl rfl rfl rfl (Or.inl rfl) ?_
    refine jr_aload rfl rfl ?_
    refine jr_getR rfl rfl rfl rfl (Or.inl rfl) ?_
    refine jr_cv1 (mc' := 0) (ms' := 0) rfl jm_Poll_resultFor_n jm_Poll_resultFor_f rfl rfl rfl rfl rfl rfl rfl (Nat.zero_le _) (Nat.zero_le _) ?_
    refine ev_Poll_resultFor (c := 4) (r := r) (hm := jw_h hm (jw_nxs hm b k a0)) (b := b) (h := jK h 4 T (r + 1)) (jz_Wa hB hA1) ⟨rfl, hT.1, hT.2.1, hT.2.2.1, hT.2.2.2⟩ hR hmo (fun S1 => ?_)
    refine jr_cv1 (mc' := 0) (ms' := 0) rfl jm_Cal_comes_n jm_Cal_comes_f rfl rfl rfl rfl rfl rfl rfl (Nat.zero_le _) (Nat.zero_le _) ?_
    obtain ⟨v, hv, hv2⟩ := jw_counted_in (jz_Wa hB hA1) hmo
    refine ev_comes4 (hm := hm) (b := b) (w := w + k) hB.2.2 hR hmo hT (by rw [hv]; exact nI_pos' (by omega)) hw1 (by omega) (fun T1 hT1 hL1 => ?_)
    refine jr_iinc3 rfl rfl ?_
    refine jr_goto rfl ?_
    rw [jn_S]
    exact lp_For_stepFrom (T := T1) (k + 1) hB hmo hR hA hw (by omega) hn hT1 kk
termination_by n - k
decreasing_by all_goals omega

theorem eB_copy40 {d : Nat} {h : jx_H} {Q : Option jx_V → jx_H → Prop} {r w : Nat} {a : jw_A} (hA : jy_A h 0 r a) (hw0 : a 0 = nI w) (hw : w ≤ 511) (k : ∀ T' : Nat → Nat → Int32, jy_T (jy_np h r) T' a → (∀ j, j < w → T' 31 j = jh_I h 31 0 j) → Q none (jP (jK h 4 T' (r + 1)) (fun a => jh_I h a 0) (jh_M h 5 0 5))) : jx_Ev jm_Cal_copyOf (d + 2) 0 0 false 0 [jv_r 1 4, jv_r 1 0] h Q := by
  have e0 := ev_copy40 (d := d) (h := h) (r := r) (w := w) (S := fun a => jh_I h a 0) (kc := jh_M h 5 0 5) (m := jh_M h 1 4 0) (T := fun a => jh_I h a 4) (a := a) (Q := Q) hA hw0 hw k
  rw [jK_self, jP_self] at e0
  exact e0
set_option maxHeartbeats 800000 in
set_option maxRecDepth 100000 in
theorem ev_For_stepFrom {d : Nat} {h : jx_H} {Q : Option jx_V → jx_H → Prop} {hm : jx_H} {b r n w : Nat} (hw0 : jz_W hm b) (hmo : ¬ jC hm b 0 0 = 0) (hR : jy_R h r hm b) (hA0 : jy_A h 0 r (jA hm)) (hw : jA hm 0 = nI w) (hn : w + n ≤ 511) (kk : ∀ T' S' : Nat → Nat → Int32, ∀ kc' : Nat, jy_T (jy_np h r) T' (jw_nxs hm b n (jA hm)) → Q none (jP (jK h 4 T' (r + 1)) S' kc'))  : jx_Ev jm_For_stepFrom (d + 7) 0 0 false 0 [jv_r 3 0, jv_r 1 0, jv_i (nI n)] h Q := by
  show jx_W (jm_For_stepFrom, d + 7, 0, 0, false, 0, _) Q 0 0 0 [some (jv_r 3 0), some (jv_r 1 0), some (jv_i (nI n)), none] [] _
  refine jr_aload rfl rfl ?_
  refine jr_getR rfl rfl rfl rfl (Or.inl rfl) ?_
  refine jr_aload rfl rfl ?_
  refine jr_cv1 (mc' := 0) (ms' := 0) rfl jm_Cal_copyOf_n jm_Cal_copyOf_f rfl rfl rfl rfl rfl rfl rfl (Nat.zero_le _) (Nat.zero_le _) ?_
  refine eB_copy40 hA0 hw (by omega) (fun T1 hT1 hL1 => ?_)
  refine jr_ic rfl ?_
  refine jr_ist3 rfl rfl ?_
  exact lp_For_stepFrom 0 (jz_W_B hw0) hmo hR hw0.2.2.2 hw (Nat.zero_le _) hn hT1 kk

