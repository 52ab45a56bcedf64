abbrev jT_K (B : Nat → Int32) (sz t : Nat) : Nat := jT_k B sz (jT_p B sz t)
theorem jf_p {p : Prop} [Decidable p] (h : ¬ (if p then (1 : Int32) else 0) = 0) : p := Decidable.byContradiction fun z => h (if_neg z)
theorem jf_n {p : Prop} [Decidable p] (h : (if p then (1 : Int32) else 0) = 0) : ¬ p := fun z => by
  rw [if_pos z] at h
  exact absurd h (by decide)
theorem jT_k_word {B : Nat → Int32} {sz a : Nat} (h : 100 ≤ jT_k B sz a) : a < sz ∧ jT_l (jT_c B sz a) = true ∧ jT_f B sz a - a ≤ 8 ∧ jT_ix (jT_wd B sz a) < 29 ∧ jT_k B sz a = 100 + jT_ix (jT_wd B sz a) := by
  unfold jT_k at h ⊢
  by_cases e1 : sz ≤ a
  · rw [if_pos e1] at h; omega
  · rw [if_neg e1] at h ⊢
    by_cases e2 : jT_l (jT_c B sz a) = true
    · rw [if_pos e2] at h ⊢
      by_cases e3 : 8 < jT_f B sz a - a
      · rw [if_pos e3] at h; omega
      · rw [if_neg e3] at h ⊢
        by_cases e4 : jT_ix (jT_wd B sz a) < 29
        · rw [if_pos e4]
          exact ⟨by omega, e2, by omega, e4, rfl⟩
        · rw [if_neg e4] at h; omega
    · rw [if_neg e2] at h
      by_cases e3 : jT_d (jT_c B sz a) = true
      · rw [if_pos e3] at h
        split at h <;> omega
      · rw [if_neg e3] at h
        by_cases e4 : jT_sg (jT_c B sz a) = true
        · rw [if_pos e4] at h
          have := jT_sg_r e4
          omega
        · rw [if_neg e4] at h; omega
theorem jT_k_sign {B : Nat → Int32} {sz a : Nat} (h : 3 < jT_k B sz a) (h2 : jT_k B sz a < 100) : a < sz ∧ jT_k B sz a = jT_c B sz a ∧ jT_sg (jT_c B sz a) = true ∧ jT_f B sz a = a + 1 := by
  unfold jT_k at h h2 ⊢
  unfold jT_f
  by_cases e1 : sz ≤ a
  · rw [if_pos e1] at h; omega
  · rw [if_neg e1] at h h2 ⊢
    rw [if_neg e1]
    by_cases e2 : jT_l (jT_c B sz a) = true
    · rw [if_pos e2] at h h2
      split at h
      · omega
      · rename_i q
        rw [if_neg q] at h2
        split at h
        · rename_i q2
          rw [if_pos q2] at h2
          omega
        · omega
    · rw [if_neg e2] at h h2 ⊢
      rw [if_neg e2]
      by_cases e3 : jT_d (jT_c B sz a) = true
      · rw [if_pos e3] at h
        split at h <;> omega
      · rw [if_neg e3] at h h2 ⊢
        rw [if_neg e3]
        by_cases e4 : jT_sg (jT_c B sz a) = true
        · rw [if_pos e4] at h ⊢
          exact ⟨by omega, rfl, e4, rfl⟩
        · rw [if_neg e4] at h; omega
theorem jT_mt3 {k : Nat} : nI (jT_mt k) = nI 3 ↔ 100 ≤ k := by
  have hb : jT_mt k < 2 ^ 31 := by unfold jT_mt; repeat' split
                                   all_goals decide
  rw [nI_eq hb (by decide)]
  unfold jT_mt
  repeat' split
  all_goals omega
theorem jT_mt5 {k : Nat} : nI (jT_mt k) = nI 5 ↔ 3 < k ∧ k < 100 := by
  have hb : jT_mt k < 2 ^ 31 := by unfold jT_mt; repeat' split
                                   all_goals decide
  rw [nI_eq hb (by decide)]
  unfold jT_mt
  repeat' split
  all_goals omega
theorem jT_mt1 {k : Nat} : nI (jT_mt k) = nI 1 ↔ k = 1 := by
  have hb : jT_mt k < 2 ^ 31 := by unfold jT_mt; repeat' split
                                   all_goals decide
  rw [nI_eq hb (by decide)]
  unfold jT_mt
  repeat' split
  all_goals omega
theorem jT_mt4 {k : Nat} : nI (jT_mt k) = nI 4 ↔ k = 2 := by
  have hb : jT_mt k < 2 ^ 31 := by unfold jT_mt; repeat' split
                                   all_goals decide
  rw [nI_eq hb (by decide)]
  unfold jT_mt
  repeat' split
  all_goals omega
theorem jT_mt2 {k : Nat} : nI (jT_mt k) = nI 2 ↔ k = 3 := by
  have hb : jT_mt k < 2 ^ 31 := by unfold jT_mt; repeat' split
                                   all_goals decide
  rw [nI_eq hb (by decide)]
  unfold jT_mt
  repeat' split
  all_goals omega
theorem jT_mt0 {k : Nat} : nI (jT_mt k) = nI 0 ↔ k = 0 := by
  have hb : jT_mt k < 2 ^ 31 := by unfold jT_mt; repeat' split
                                   all_goals decide
  rw [nI_eq hb (by decide)]
  unfold jT_mt
  repeat' split
  all_goals omega
/-- the text, as the model has it -/
def jX_t (h : jx_H) (B : Nat → Int32) (sz : Nat) : Prop := jh_I h 11 0 3 = nI sz ∧ sz ≤ 1700 ∧ jT_c (jh_I h 65 0) sz = jT_c B sz ∧ jh_I h 11 0 5 = -1
theorem eM_sign0 {d : Nat} {h : jx_H} {Q : Option jx_V → jx_H → Prop} {B : Nat → Int32} {sz i : Nat} (ht : jX_t h B sz) (hi : i < 2 ^ 31) (k : Q (some (jv_i (nI (jT_c B sz i)))) h) : jx_Ev jm_MD_sign d 0 0 false 1 [jv_r 11 0, jv_i (nI i)] h Q := by
  have := eM_sign (d := d) (h := h) (Q := Q) (F := jh_I h 11 0) (G := jh_L h 11 0) (i := i) ht.1 ht.2.1 ht.2.2.1 hi
  rw [jM_self] at this
  exact this k
set_option maxHeartbeats 800000 in
set_option maxRecDepth 100000 in
theorem eM_isWord {d : Nat} {h : jx_H} {Q : Option jx_V → jx_H → Prop} {B : Nat → Int32} {sz t : Nat} {W : Int64} {i : Nat} (hc : jT_mc h B sz t) (hi : i < 29) (hW : W = jT_key (jy_words.getD i [])) (k : Q (some (jv_i (if jT_K B sz t = 100 + i then 1 else 0))) h)  : jx_Ev jm_MD_isWord (d + 1) 0 0 false 1 [jv_r 11 0, jv_l W] h Q := by
  show jx_W (jm_MD_isWord, d + 1, 0, 0, false, 1, _) Q 0 0 0 [some (jv_r 11 0), some (jv_l W), none] [] _
  refine jr_aload rfl rfl ?_
  refine jr_getI rfl rfl ?_
  refine jr_ic rfl ?_
  rw [hc.2.2.1]
  refine jr_icmp_ne rfl (fun c3 => ?_) (fun c3 => ?_)
  · refine jr_ic rfl ?_
    refine jr_zret rfl rfl rfl (Nat.zero_le _) (Nat.zero_le _) ?_
    rw [if_neg (fun z => c3 (jT_mt3.mpr (by have z2 : jT_k B sz (jT_p B sz t) = 100 + i := z; omega)))] at k
    exact k
  · refine jr_aload rfl rfl ?_
    refine jr_getL rfl rfl ?_
    refine jr_lload rfl rfl ?_
    refine jr_lcmp rfl ?_
    refine jr_if_ne rfl (fun c8 => ?_) (fun c8 => ?_)
    · refine jr_ic rfl ?_
      refine jr_zret rfl rfl rfl (Nat.zero_le _) (Nat.zero_le _) ?_
      have h100 := jT_mt3.mp (show nI (jT_mt (jT_K B sz t)) = nI 3 from c3)
      obtain ⟨w1, w2, w3, w4, w5⟩ := jT_k_word h100
      have hwl := jT_wd_l (B := B) w1 w2
      have hn := hc.2.2.2.2 (Or.inr h100)
      rw [if_neg (fun z => c8 (lg_cmp1 ?_))] at k
      · exact k
      · rw [hn, hW]
        exact (jT_ix_key8 hwl.1 (by omega) hi).mpr (by have z2 : jT_k B sz (jT_p B sz t) = 100 + i := z; omega)
    · refine jr_ic rfl ?_
      refine jr_goto rfl ?_
      refine jr_zret rfl rfl rfl (Nat.zero_le _) (Nat.zero_le _) ?_
      have h100 := jT_mt3.mp (show nI (jT_mt (jT_K B sz t)) = nI 3 from c3)
      obtain ⟨w1, w2, w3, w4, w5⟩ := jT_k_word h100
      have hwl := jT_wd_l (B := B) w1 w2
      have hn := hc.2.2.2.2 (Or.inr h100)
      have e := lg_cmp0 c8
      rw [hn, hW] at e
      have e2 := (jT_ix_key8 hwl.1 (by omega) hi).mp e
      rw [if_pos (show jT_K B sz t = 100 + i by rw [← e2]; exact w5)] at k
      exact k

set_option maxHeartbeats 800000 in
set_option maxRecDepth 100000 in
theorem eM_isSignHere {d : Nat} {h : jx_H} {Q : Option jx_V → jx_H → Prop} {B : Nat → Int32} {sz t : Nat} {s : Nat} (ht : jX_t h B sz) (hc : jT_mc h B sz t) (hs : jT_sg s = true) (k : Q (some (jv_i (if jT_K B sz t = s then 1 else 0))) h)  : jx_Ev jm_MD_isSignHere (d + 1) 0 0 false 1 [jv_r 11 0, jv_i (nI s)] h Q := by
  show jx_W (jm_MD_isSignHere, d + 1, 0, 0, false, 1, _) Q 0 0 0 [some (jv_r 11 0), some (jv_i (nI s))] [] _
  have hp := @jT_p_le B sz t
  have hsz := ht.2.1
  refine jr_aload rfl rfl ?_
  refine jr_getI rfl rfl ?_
  refine jr_ic rfl ?_
  rw [hc.2.2.1]
  refine jr_icmp_ne rfl (fun c3 => ?_) (fun c3 => ?_)
  · refine jr_ic rfl ?_
    refine jr_zret rfl rfl rfl (Nat.zero_le _) (Nat.zero_le _) ?_
    rw [if_neg (fun z => c3 (jT_mt5.mpr (by have z2 : jT_k B sz (jT_p B sz t) = s := z; have := jT_sg_r hs; omega)))] at k
    exact k
  · refine jr_aload rfl rfl ?_
    refine jr_aload rfl rfl ?_
    refine jr_getI rfl rfl ?_
    rw [hc.1]
    refine jr_cv1 (mc' := 0) (ms' := 0) rfl jm_MD_sign_n jm_MD_sign_f rfl rfl rfl rfl rfl rfl rfl (Nat.zero_le _) (Nat.zero_le _) ?_
    refine eM_sign0 (B := B) ht (by omega) ?_
    refine jr_iload rfl rfl ?_
    refine jr_icmp_ne rfl (fun c9 => ?_) (fun c9 => ?_)
    · refine jr_ic rfl ?_
      refine jr_zret rfl rfl rfl (Nat.zero_le _) (Nat.zero_le _) ?_
      have h5 := jT_mt5.mp (show nI (jT_mt (jT_K B sz t)) = nI 5 from c3)
      obtain ⟨w1, w2, w3, w4⟩ := jT_k_sign h5.1 h5.2
      have hcb := jT_c_lt B sz (jT_p B sz t)
      have hsr := jT_sg_r hs
      rw [if_neg (fun z => c9 (by have z2 : jT_k B sz (jT_p B sz t) = s := z; rw [← w2, z2]))] at k
      exact k
    · refine jr_ic rfl ?_
      refine jr_goto rfl ?_
      refine jr_zret rfl rfl rfl (Nat.zero_le _) (Nat.zero_le _) ?_
      have h5 := jT_mt5.mp (show nI (jT_mt (jT_K B sz t)) = nI 5 from c3)
      obtain ⟨w1, w2, w3, w4⟩ := jT_k_sign h5.1 h5.2
      have hcb := jT_c_lt B sz (jT_p B sz t)
      have hsr := jT_sg_r hs
      rw [if_pos (w2.trans (jn_eq (show nI (jT_c B sz (jT_p B sz t)) = nI s from c9) (by omega) (by omega)))] at k
      exact k

def jT_rk (k : Nat) : Nat := if k = 119 then 2 else if k = 127 then 1 else if k = 60 ∨ k = 62 ∨ k = 61 then 4 else if k = 43 ∨ k = 45 then 5 else if k = 42 ∨ k = 47 ∨ k = 37 then 6 else 0
def jT_wh (k : Nat) : Nat := if k = 101 then 100 else if k = 102 then 103 else if k = 103 then 111 else if k = 104 then 102 else if k = 105 then 121 else if k = 100 then 109 else if k = 106 then 104 else 0
set_option maxHeartbeats 800000 in
set_option maxRecDepth 100000 in
theorem eM_rankHere {d : Nat} {h : jx_H} {Q : Option jx_V → jx_H → Prop} {B : Nat → Int32} {sz t : Nat}  (ht : jX_t h B sz) (hc : jT_mc h B sz t) (k : Q (some (jv_i (nI (jT_rk (jT_K B sz t))))) h)  : jx_Ev jm_MD_rankHere (d + 2) 0 0 false 1 [jv_r 11 0] h Q := by
  show jx_W (jm_MD_rankHere, d + 2, 0, 0, false, 1, _) Q 0 0 0 [some (jv_r 11 0)] [] _
  refine jr_aload rfl rfl ?_
  refine jr_lc rfl ?_
  refine jr_cv1 (mc' := 0) (ms' := 0) rfl jm_MD_isWord_n jm_MD_isWord_f rfl rfl rfl rfl rfl rfl rfl (Nat.zero_le _) (Nat.zero_le _) ?_
  refine eM_isWord hc (i := 19) (by decide) jT_W19 ?_
  refine jr_if_eq rfl (fun c3 => ?_) (fun c3 => ?_)
  · refine jr_aload rfl rfl ?_
    refine jr_lc rfl ?_
    refine jr_cv1 (mc' := 0) (ms' := 0) rfl jm_MD_isWord_n jm_MD_isWord_f rfl rfl rfl rfl rfl rfl rfl (Nat.zero_le _) (Nat.zero_le _) ?_
    refine eM_isWord hc (i := 27) (by decide) jT_W27 ?_
    refine jr_if_eq rfl (fun c9 => ?_) (fun c9 => ?_)
    · refine jr_aload rfl rfl ?_
      refine jr_ic rfl ?_
      refine jr_cv1 (mc' := 0) (ms' := 0) rfl jm_MD_isSignHere_n jm_MD_isSignHere_f rfl rfl rfl rfl rfl rfl rfl (Nat.zero_le _) (Nat.zero_le _) ?_
      refine eM_isSignHere (s := 60) ht hc (by decide) ?_
      refine jr_if_ne rfl (fun c15 => ?_) (fun c15 => ?_)
      · refine jr_ic rfl ?_
        refine jr_iret rfl rfl (Nat.zero_le _) (Nat.zero_le _) ?_
        have f3 := jf_n c3
        have f9 := jf_n c9
        have f15 := jf_p c15
        rw [show jT_rk (jT_K B sz t) = 4 from by unfold jT_rk; (repeat' split) <;> omega] at k
        exact k
      · refine jr_aload rfl rfl ?_
        refine jr_ic rfl ?_
        refine jr_cv1 (mc' := 0) (ms' := 0) rfl jm_MD_isSignHere_n jm_MD_isSignHere_f rfl rfl rfl rfl rfl rfl rfl (Nat.zero_le _) (Nat.zero_le _) ?_
        refine eM_isSignHere (s := 62) ht hc (by decide) ?_
        refine jr_if_ne rfl (fun c19 => ?_) (fun c19 => ?_)
        · refine jr_ic rfl ?_
          refine jr_iret rfl rfl (Nat.zero_le _) (Nat.zero_le _) ?_
          have f3 := jf_n c3
          have f9 := jf_n c9
          have f15 := jf_n c15
          have f19 := jf_p c19
          rw [show jT_rk (jT_K B sz t) = 4 from by unfold jT_rk; (repeat' split) <;> omega] at k
          exact k
        · refine jr_aload rfl rfl ?_
          refine jr_ic rfl ?_
          refine jr_cv1 (mc' := 0) (ms' := 0) rfl jm_MD_isSignHere_n jm_MD_isSignHere_f rfl rfl rfl rfl rfl rfl rfl (Nat.zero_le _) (Nat.zero_le _) ?_
          refine eM_isSignHere (s := 61) ht hc (by decide) ?_
          refine jr_if_eq rfl (fun c23 => ?_) (fun c23 => ?_)
          · refine jr_aload rfl rfl ?_
            refine jr_ic rfl ?_
            refine jr_cv1 (mc' := 0) (ms' := 0) rfl jm_MD_isSignHere_n jm_MD_isSignHere_f rfl rfl rfl rfl rfl rfl rfl (Nat.zero_le _) (Nat.zero_le _) ?_
            refine eM_isSignHere (s := 43) ht hc (by decide) ?_
            refine jr_if_ne rfl (fun c29 => ?_) (fun c29 => ?_)
            · refine jr_ic rfl ?_
              refine jr_iret rfl rfl (Nat.zero_le _) (Nat.zero_le _) ?_
              have f3 := jf_n c3
              have f9 := jf_n c9
              have f15 := jf_n c15
              have f19 := jf_n c19
              have f23 := jf_n c23
              have f29 := jf_p c29
              rw [show jT_rk (jT_K B sz t) = 5 from by unfold jT_rk; (repeat' split) <;> omega] at k
              exact k
            · refine jr_aload rfl rfl ?_
              refine jr_ic rfl ?_
              refine jr_cv1 (mc' := 0) (ms' := 0) rfl jm_MD_isSignHere_n jm_MD_isSignHere_f rfl rfl rfl rfl rfl rfl rfl (Nat.zero_le _) (Nat.zero_le _) ?_
              refine eM_isSignHere (s := 45) ht hc (by decide) ?_
              refine jr_if_eq rfl (fun c33 => ?_) (fun c33 => ?_)
              · refine jr_aload rfl rfl ?_
                refine jr_ic rfl ?_
                refine jr_cv1 (mc' := 0) (ms' := 0) rfl jm_MD_isSignHere_n jm_MD_isSignHere_f rfl rfl rfl rfl rfl rfl rfl (Nat.zero_le _) (Nat.zero_le _) ?_
                refine eM_isSignHere (s := 42) ht hc (by decide) ?_
                refine jr_if_ne rfl (fun c39 => ?_) (fun c39 => ?_)
                · refine jr_ic rfl ?_
                  refine jr_goto rfl ?_
                  refine jr_iret rfl rfl (Nat.zero_le _) (Nat.zero_le _) ?_
                  have f3 := jf_n c3
                  have f9 := jf_n c9
                  have f15 := jf_n c15
                  have f19 := jf_n c19
                  have f23 := jf_n c23
                  have f29 := jf_n c29
                  have f33 := jf_n c33
                  have f39 := jf_p c39
                  rw [show jT_rk (jT_K B sz t) = 6 from by unfold jT_rk; (repeat' split) <;> omega] at k
                  exact k
                · refine jr_aload rfl rfl ?_
                  refine jr_ic rfl ?_
                  refine jr_cv1 (mc' := 0) (ms' := 0) rfl jm_MD_isSignHere_n jm_MD_isSignHere_f rfl rfl rfl rfl rfl rfl rfl (Nat.zero_le _) (Nat.zero_le _) ?_
                  refine eM_isSignHere (s := 47) ht hc (by decide) ?_
                  refine jr_if_ne rfl (fun c43 => ?_) (fun c43 => ?_)
                  · refine jr_ic rfl ?_
                    refine jr_goto rfl ?_
                    refine jr_iret rfl rfl (Nat.zero_le _) (Nat.zero_le _) ?_
                    have f3 := jf_n c3
                    have f9 := jf_n c9
                    have f15 := jf_n c15
                    have f19 := jf_n c19
                    have f23 := jf_n c23
                    have f29 := jf_n c29
                    have f33 := jf_n c33
                    have f39 := jf_n c39
                    have f43 := jf_p c43
                    rw [show jT_rk (jT_K B sz t) = 6 from by unfold jT_rk; (repeat' split) <;> omega] at k
                    exact k
                  · refine jr_aload rfl rfl ?_
                    refine jr_ic rfl ?_
                    refine jr_cv1 (mc' := 0) (ms' := 0) rfl jm_MD_isSignHere_n jm_MD_isSignHere_f rfl rfl rfl rfl rfl rfl rfl (Nat.zero_le _) (Nat.zero_le _) ?_
                    refine eM_isSignHere (s := 37) ht hc (by decide) ?_
                    refine jr_if_eq rfl (fun c47 => ?_) (fun c47 => ?_)
                    · refine jr_ic rfl ?_
                      refine jr_iret rfl rfl (Nat.zero_le _) (Nat.zero_le _) ?_
                      have f3 := jf_n c3
                      have f9 := jf_n c9
                      have f15 := jf_n c15
                      have f19 := jf_n c19
                      have f23 := jf_n c23
                      have f29 := jf_n c29
                      have f33 := jf_n c33
                      have f39 := jf_n c39
                      have f43 := jf_n c43
                      have f47 := jf_n c47
                      rw [show jT_rk (jT_K B sz t) = 0 from by unfold jT_rk; (repeat' split) <;> omega] at k
                      exact k
                    · refine jr_ic rfl ?_
                      refine jr_goto rfl ?_
                      refine jr_iret rfl rfl (Nat.zero_le _) (Nat.zero_le _) ?_
                      have f3 := jf_n c3
                      have f9 := jf_n c9
                      have f15 := jf_n c15
                      have f19 := jf_n c19
                      have f23 := jf_n c23
                      have f29 := jf_n c29
                      have f33 := jf_n c33
                      have f39 := jf_n c39
                      have f43 := jf_n c43
                      have f47 := jf_p c47
                      rw [show jT_rk (jT_K B sz t) = 6 from by unfold jT_rk; (repeat' split) <;> omega] at k
                      exact k
              · refine jr_ic rfl ?_
                refine jr_iret rfl rfl (Nat.zero_le _) (Nat.zero_le _) ?_
                have f3 := jf_n c3
                have f9 := jf_n c9
                have f15 := jf_n c15
                have f19 := jf_n c19
                have f23 := jf_n c23
                have f29 := jf_n c29
                have f33 := jf_p c33
                rw [show jT_rk (jT_K B sz t) = 5 from by unfold jT_rk; (repeat' split) <;> omega] at k
                exact k
          · refine jr_ic rfl ?_
            refine jr_iret rfl rfl (Nat.zero_le _) (Nat.zero_le _) ?_
            have f3 := jf_n c3
            have f9 := jf_n c9
            have f15 := jf_n c15
            have f19 := jf_n c19
            have f23 := jf_p c23
            rw [show jT_rk (jT_K B sz t) = 4 from by unfold jT_rk; (repeat' split) <;> omega] at k
            exact k
    · refine jr_ic rfl ?_
      refine jr_iret rfl rfl (Nat.zero_le _) (Nat.zero_le _) ?_
      have f3 := jf_n c3
      have f9 := jf_p c9
      rw [show jT_rk (jT_K B sz t) = 1 from by unfold jT_rk; (repeat' split) <;> omega] at k
      exact k
  · refine jr_ic rfl ?_
    refine jr_iret rfl rfl (Nat.zero_le _) (Nat.zero_le _) ?_
    have f3 := jf_p c3
    rw [show jT_rk (jT_K B sz t) = 2 from by unfold jT_rk; (repeat' split) <;> omega] at k
    exact k

set_option maxHeartbeats 800000 in
set_option maxRecDepth 100000 in
theorem eM_wordHere {d : Nat} {h : jx_H} {Q : Option jx_V → jx_H → Prop} {B : Nat → Int32} {sz t : Nat}  (hc : jT_mc h B sz t) (k : Q (some (jv_i (nI (jT_wh (jT_K B sz t))))) h)  : jx_Ev jm_MD_wordHere (d + 2) 0 0 false 1 [jv_r 11 0] h Q := by
  show jx_W (jm_MD_wordHere, d + 2, 0, 0, false, 1, _) Q 0 0 0 [some (jv_r 11 0)] [] _
  refine jr_aload rfl rfl ?_
  refine jr_lc rfl ?_
  refine jr_cv1 (mc' := 0) (ms' := 0) rfl jm_MD_isWord_n jm_MD_isWord_f rfl rfl rfl rfl rfl rfl rfl (Nat.zero_le _) (Nat.zero_le _) ?_
  refine eM_isWord hc (i := 1) (by decide) jT_W1 ?_
  refine jr_if_eq rfl (fun c3 => ?_) (fun c3 => ?_)
  · refine jr_aload rfl rfl ?_
    refine jr_lc rfl ?_
    refine jr_cv1 (mc' := 0) (ms' := 0) rfl jm_MD_isWord_n jm_MD_isWord_f rfl rfl rfl rfl rfl rfl rfl (Nat.zero_le _) (Nat.zero_le _) ?_
    refine eM_isWord hc (i := 2) (by decide) jT_W2 ?_
    refine jr_if_eq rfl (fun c9 => ?_) (fun c9 => ?_)
    · refine jr_aload rfl rfl ?_
      refine jr_lc rfl ?_
      refine jr_cv1 (mc' := 0) (ms' := 0) rfl jm_MD_isWord_n jm_MD_isWord_f rfl rfl rfl rfl rfl rfl rfl (Nat.zero_le _) (Nat.zero_le _) ?_
      refine eM_isWord hc (i := 3) (by decide) jT_W3 ?_
      refine jr_if_eq rfl (fun c15 => ?_) (fun c15 => ?_)
      · refine jr_aload rfl rfl ?_
        refine jr_lc rfl ?_
        refine jr_cv1 (mc' := 0) (ms' := 0) rfl jm_MD_isWord_n jm_MD_isWord_f rfl rfl rfl rfl rfl rfl rfl (Nat.zero_le _) (Nat.zero_le _) ?_
        refine eM_isWord hc (i := 4) (by decide) jT_W4 ?_
        refine jr_if_eq rfl (fun c21 => ?_) (fun c21 => ?_)
        · refine jr_aload rfl rfl ?_
          refine jr_lc rfl ?_
          refine jr_cv1 (mc' := 0) (ms' := 0) rfl jm_MD_isWord_n jm_MD_isWord_f rfl rfl rfl rfl rfl rfl rfl (Nat.zero_le _) (Nat.zero_le _) ?_
          refine eM_isWord hc (i := 5) (by decide) jT_W5 ?_
          refine jr_if_eq rfl (fun c27 => ?_) (fun c27 => ?_)
          · refine jr_aload rfl rfl ?_
            refine jr_lc rfl ?_
            refine jr_cv1 (mc' := 0) (ms' := 0) rfl jm_MD_isWord_n jm_MD_isWord_f rfl rfl rfl rfl rfl rfl rfl (Nat.zero_le _) (Nat.zero_le _) ?_
            refine eM_isWord hc (i := 0) (by decide) jT_W0 ?_
            refine jr_if_eq rfl (fun c33 => ?_) (fun c33 => ?_)
            · refine jr_aload rfl rfl ?_
              refine jr_lc rfl ?_
              refine jr_cv1 (mc' := 0) (ms' := 0) rfl jm_MD_isWord_n jm_MD_isWord_f rfl rfl rfl rfl rfl rfl rfl (Nat.zero_le _) (Nat.zero_le _) ?_
              refine eM_isWord hc (i := 6) (by decide) jT_W6 ?_
              refine jr_if_eq rfl (fun c39 => ?_) (fun c39 => ?_)
              · refine jr_ic rfl ?_
                refine jr_iret rfl rfl (Nat.zero_le _) (Nat.zero_le _) ?_
                have f3 := jf_n c3
                have f9 := jf_n c9
                have f15 := jf_n c15
                have f21 := jf_n c21
                have f27 := jf_n c27
                have f33 := jf_n c33
                have f39 := jf_n c39
                rw [show jT_wh (jT_K B sz t) = 0 from by unfold jT_wh; (repeat' split) <;> omega] at k
                exact k
              · refine jr_ic rfl ?_
                refine jr_goto rfl ?_
                refine jr_iret rfl rfl (Nat.zero_le _) (Nat.zero_le _) ?_
                have f3 := jf_n c3
                have f9 := jf_n c9
                have f15 := jf_n c15
                have f21 := jf_n c21
                have f27 := jf_n c27
                have f33 := jf_n c33
                have f39 := jf_p c39
                rw [show jT_wh (jT_K B sz t) = 104 from by unfold jT_wh; (repeat' split) <;> omega] at k
                exact k
            · refine jr_ic rfl ?_
              refine jr_iret rfl rfl (Nat.zero_le _) (Nat.zero_le _) ?_
              have f3 := jf_n c3
              have f9 := jf_n c9
              have f15 := jf_n c15
              have f21 := jf_n c21
              have f27 := jf_n c27
              have f33 := jf_p c33
              rw [show jT_wh (jT_K B sz t) = 109 from by unfold jT_wh; (repeat' split) <;> omega] at k
              exact k
          · refine jr_ic rfl ?_
            refine jr_iret rfl rfl (Nat.zero_le _) (Nat.zero_le _) ?_
            have f3 := jf_n c3
            have f9 := jf_n c9
            have f15 := jf_n c15
            have f21 := jf_n c21
            have f27 := jf_p c27
            rw [show jT_wh (jT_K B sz t) = 121 from by unfold jT_wh; (repeat' split) <;> omega] at k
            exact k
        · refine jr_ic rfl ?_
          refine jr_iret rfl rfl (Nat.zero_le _) (Nat.zero_le _) ?_
          have f3 := jf_n c3
          have f9 := jf_n c9
          have f15 := jf_n c15
          have f21 := jf_p c21
          rw [show jT_wh (jT_K B sz t) = 102 from by unfold jT_wh; (repeat' split) <;> omega] at k
          exact k
      · refine jr_ic rfl ?_
        refine jr_iret rfl rfl (Nat.zero_le _) (Nat.zero_le _) ?_
        have f3 := jf_n c3
        have f9 := jf_n c9
        have f15 := jf_p c15
        rw [show jT_wh (jT_K B sz t) = 111 from by unfold jT_wh; (repeat' split) <;> omega] at k
        exact k
    · refine jr_ic rfl ?_
      refine jr_iret rfl rfl (Nat.zero_le _) (Nat.zero_le _) ?_
      have f3 := jf_n c3
      have f9 := jf_p c9
      rw [show jT_wh (jT_K B sz t) = 103 from by unfold jT_wh; (repeat' split) <;> omega] at k
      exact k
  · refine jr_ic rfl ?_
    refine jr_iret rfl rfl (Nat.zero_le _) (Nat.zero_le _) ?_
    have f3 := jf_p c3
    rw [show jT_wh (jT_K B sz t) = 100 from by unfold jT_wh; (repeat' split) <;> omega] at k
    exact k

/-- where a fault lies, and where the reader stands then -/
def jPl (h : jx_H) (pl : Nat) : Prop := jh_I h 11 0 5 = nI pl ∧ jh_I h 11 0 6 = nI pl
def jX_ft (h h' : jx_H) (kd : Int32) (pl : Nat) : Prop := (∀ a b, a ≠ 11 → jh_I h' a b = jh_I h a b) ∧ h'.2 = h.2 ∧ (∀ f, f ≠ 4 → f ≠ 5 → jh_I h' 11 0 f = jh_I h 11 0 f) ∧ jh_I h' 11 0 4 = kd ∧ jPl h' pl
def jX_kd (k : Nat) : Int32 := if k = 1 then 1 else 2
set_option maxHeartbeats 800000 in
set_option maxRecDepth 100000 in
theorem eM_misplaced {d : Nat} {h : jx_H} {Q : Option jx_V → jx_H → Prop} {B : Nat → Int32} {sz t : Nat}  (hg : jh_I h 11 0 4 = 0) (hc : jT_mc h B sz t) (k : ∀ h', jX_ft h h' (jX_kd (jT_K B sz t)) (jT_p B sz t) → Q none h')  : jx_Ev jm_MD_misplaced (d + 2) 0 0 false 1 [jv_r 11 0] h Q := by
  show jx_W (jm_MD_misplaced, d + 2, 0, 0, false, 1, _) Q 0 0 0 [some (jv_r 11 0)] [] _
  refine jr_aload rfl rfl ?_
  refine jr_aload rfl rfl ?_
  refine jr_getI rfl rfl ?_
  refine jr_ic rfl ?_
  rw [hc.2.2.1]
  refine jr_icmp_ne rfl (fun c4 => ?_) (fun c4 => ?_)
  · refine jr_ic rfl ?_
    refine jr_aload rfl rfl ?_
    refine jr_getI rfl rfl ?_
    rw [hc.1]
    refine jr_cv2 (mc' := 0) (ms' := 0) rfl jm_MD_fails_n jm_MD_fails_f rfl rfl rfl rfl rfl rfl rfl (Nat.zero_le _) (Nat.zero_le _) ?_
    show jx_W (jm_MD_fails, _, _, _, _, _, _) _ 0 0 0 [some _, some _, some _] [] _
    refine jr_aload rfl rfl ?_
    refine jr_getI rfl rfl ?_
    rw [hg]
    refine jr_if_le rfl (fun _ => ?_) (fun z => absurd (by decide) z)
    refine jr_aload rfl rfl ?_
    refine jr_iload rfl rfl ?_
    refine jr_putI rfl rfl ?_
    refine jr_aload rfl rfl ?_
    refine jr_iload rfl rfl ?_
    refine jr_putI rfl rfl ?_
    refine jr_vret rfl rfl (Nat.zero_le _) (Nat.zero_le _) ?_
    refine jr_vret rfl rfl (Nat.zero_le _) (Nat.zero_le _) ?_
    refine k _ ⟨fun a b z => ?_, rfl, fun f h1 h2 => ?_, ?_, ?_⟩
    · exact (if_neg (fun y => z y.1)).trans (if_neg (fun y => z y.1))
    · exact (jg_un h2).trans (jg_un h1)
    · show upd (upd (jh_I h 11 0) 4 2) 5 (nI (jT_p B sz t)) 4 = _
      rw [jg_un (by decide), jg_us]
      unfold jX_kd
      rw [if_neg (fun z => c4 (jT_mt1.mpr z))]
    · refine ⟨?_, ?_⟩
      · show upd (upd (jh_I h 11 0) 4 2) 5 (nI (jT_p B sz t)) 5 = _
        rw [jg_us]
      · show upd (upd (jh_I h 11 0) 4 2) 5 (nI (jT_p B sz t)) 6 = _
        rw [jg_un (by decide), jg_un (by decide)]
        exact hc.1
  · refine jr_ic rfl ?_
    refine jr_goto rfl ?_
    refine jr_aload rfl rfl ?_
    refine jr_getI rfl rfl ?_
    rw [hc.1]
    refine jr_cv2 (mc' := 0) (ms' := 0) rfl jm_MD_fails_n jm_MD_fails_f rfl rfl rfl rfl rfl rfl rfl (Nat.zero_le _) (Nat.zero_le _) ?_
    show jx_W (jm_MD_fails, _, _, _, _, _, _) _ 0 0 0 [some _, some _, some _] [] _
    refine jr_aload rfl rfl ?_
    refine jr_getI rfl rfl ?_
    rw [hg]
    refine jr_if_le rfl (fun _ => ?_) (fun z => absurd (by decide) z)
    refine jr_aload rfl rfl ?_
    refine jr_iload rfl rfl ?_
    refine jr_putI rfl rfl ?_
    refine jr_aload rfl rfl ?_
    refine jr_iload rfl rfl ?_
    refine jr_putI rfl rfl ?_
    refine jr_vret rfl rfl (Nat.zero_le _) (Nat.zero_le _) ?_
    refine jr_vret rfl rfl (Nat.zero_le _) (Nat.zero_le _) ?_
    refine k _ ⟨fun a b z => ?_, rfl, fun f h1 h2 => ?_, ?_, ?_⟩
    · exact (if_neg (fun y => z y.1)).trans (if_neg (fun y => z y.1))
    · exact (jg_un h2).trans (jg_un h1)
    · show upd (upd (jh_I h 11 0) 4 1) 5 (nI (jT_p B sz t)) 4 = _
      rw [jg_un (by decide), jg_us]
      unfold jX_kd
      rw [if_pos (jT_mt1.mp c4)]
    · refine ⟨?_, ?_⟩
      · show upd (upd (jh_I h 11 0) 4 1) 5 (nI (jT_p B sz t)) 5 = _
        rw [jg_us]
      · show upd (upd (jh_I h 11 0) 4 1) 5 (nI (jT_p B sz t)) 6 = _
        rw [jg_un (by decide), jg_un (by decide)]
        exact hc.1

