theorem eS_layVotes {d : Nat} {Q : Option jx_V → jx_H → Prop} {h : jx_H} {b : Nat} {S : Nat → Nat → Int32} (hw : jz_W h b) (hS : jz_S h S) (hmo : ¬ jC h b 0 0 = 0) (k : ∀ S' : Nat → Nat → Int32, jz_S h S' → (∀ a, a ≠ 11 → a ≠ 97 → a ≠ 100 → a ≠ 101 → S' a = S a) → (∀ j, j < 32 → S' 100 j = jw_mayb h b j) → (∀ p, p < jz_np h b → S' 101 p = nI (jw_V h b p)) → Q none (jS h S'))  : jx_Ev jm_MD_layVotes (d + 6) 0 0 false 1 [jv_r 11 0] (jS h S) Q := by
  show jx_W (jm_MD_layVotes, d + 6, 0, 0, false, 1, _) Q 0 0 0 [some (jv_r 11 0), none] [] _
  refine jr_aload rfl rfl ?_
  refine jr_cv0 (mc' := 0) (ms' := 0) rfl jm_MD_layMay_n jm_MD_layMay_f rfl rfl rfl rfl rfl rfl rfl (Nat.zero_le _) (Nat.zero_le _) ?_
  refine eS_layMay (d := d + 1) (b := b) hw hS hmo (fun S1 hS1 hfr1 hM1 => ?_)
  refine jr_ic rfl ?_
  refine jr_ist1 rfl rfl ?_
  refine lp_MD_lv S1 0 hw hS1 hmo (Nat.zero_le _) hM1 (fun q hq => absurd hq (by omega)) (fun a h1 h2 h3 h4 => hfr1 a h1 h2 h3) k
def jw_counted (h : jx_H) (b : Nat) : Int32 := jw_count (jw_mayb h b) (jC h b 15 0) (jz_np h b) (jw_V h b) (fun p => jA h (7 + p))
set_option maxHeartbeats 4000000 in
set_option maxRecDepth 100000 in
theorem eS_countedNow {d : Nat} {h : jx_H} {Q : Option jx_V → jx_H → Prop} {b : Nat} {S : Nat → Nat → Int32} (hw : jz_W h b) (hS : jz_S h S) (hmo : ¬ jC h b 0 0 = 0) (k : ∀ S' : Nat → Nat → Int32, jz_S h S' → (∀ a, a ≠ 11 → a ≠ 97 → a ≠ 100 → a ≠ 101 → a ≠ 102 → S' a = S a) → Q (some (jv_i (jw_counted h b))) (jS h S'))  : jx_Ev jm_MD_countedNow (d + 7) 0 0 false 1 [jv_r 11 0] (jS h S) Q := by
  show jx_W (jm_MD_countedNow, d + 7, 0, 0, false, 1, _) Q 0 0 0 [some (jv_r 11 0)] [] _
  refine jr_aload rfl rfl ?_
  refine jr_cv0 (mc' := 0) (ms' := 0) rfl jm_MD_layVotes_n jm_MD_layVotes_f rfl rfl rfl rfl rfl rfl rfl (Nat.zero_le _) (Nat.zero_le _) ?_
  refine eS_layVotes (d := d) (b := b) hw hS hmo (fun S1 hS1 hf1 hM1 hV1 => ?_)
  refine jr_aload rfl rfl ?_
  refine jr_cv0 (mc' := 0) (ms' := 0) rfl jm_MD_countedBy_n jm_MD_countedBy_f rfl rfl rfl rfl rfl rfl rfl (Nat.zero_le _) (Nat.zero_le _) ?_
  refine eS_countedBy (d := d + 5) (b := b) (M := jw_mayb h b) (V := jw_V h b) hw hS1 (fun p hp => ⟨hV1 p hp, (jw_V_eq hw hmo).2.1⟩) hM1 (jw_mayb_ex hw hmo) (fun S2 hS2 hf2 => ?_)
  refine jr_iret rfl rfl (Nat.zero_le _) (Nat.zero_le _) ?_
  exact k S2 hS2 (fun a h1 h2 h3 h4 h5 => (hf2 a h5).trans (hf1 a h1 h2 h3 h4))

/-- one due, when a month of length l goes by -/
def jw_g1 (C : jw_C) (l : Int32) (d : Nat) (a : jw_A) : jw_A :=
  if C 10 d = jw_month C a ∧ ¬ ((a 36 >>> (nI d &&& 31)) &&& 1 = 1) then
    if jw_paid C d l = 0 then upd a (24 + d) (a (24 + d) + 1)
    else upd (upd (upd a (12 + d) (a (12 + d) + 1)) (2 + (C 6 d).toNatClampNeg) ((upd a (12 + d) (a (12 + d) + 1)) (2 + (C 6 d).toNatClampNeg) - C 8 d)) (2 + (C 7 d).toNatClampNeg)
      ((upd (upd a (12 + d) (a (12 + d) + 1)) (2 + (C 6 d).toNatClampNeg) ((upd a (12 + d) (a (12 + d) + 1)) (2 + (C 6 d).toNatClampNeg) - C 8 d)) (2 + (C 7 d).toNatClampNeg) + C 8 d)
  else a
def jw_gd (C : jw_C) (l : Int32) : Nat → Nat → jw_A → jw_A
  | 0, _, a => a
  | n + 1, d, a => jw_gd C l n (d + 1) (jw_g1 C l d a)
def jw_ge (l : Int32) (a : jw_A) : jw_A := upd (upd a 1 (a 1 + l)) 0 (a 0 + 1)
def jw_gb (C : jw_C) (nd : Nat) (l : Int32) (a : jw_A) : jw_A := jw_ge l (jw_gd C l nd 0 a)
theorem jS_r98 (h : jx_H) (S : Nat → Nat → Int32) (f : Nat → Int32) : jh_I (jS (ju_I h 98 0 f) S) 98 0 = f := rfl
/-- a good bank, whatever the calendar -/
def jz_B (h : jx_H) (b : Nat) : Prop := jh_I h 11 0 43 = nI b ∧ b < 2 ∧ jz_R h b
theorem jz_bankB {h : jx_H} {b : Nat} {S : Nat → Nat → Int32} (hB : jz_B h b) (hS : jz_S h S) : S 11 43 = nI b := (hS 43 (by decide)).trans hB.1
set_option maxHeartbeats 4000000 in
set_option maxRecDepth 100000 in
theorem lp_MD_goesBy {d n0 : Nat} {Q : Option jx_V → jx_H → Prop} {h : jx_H} {b : Nat} {S : Nat → Nat → Int32} {l : Int32} (a : jw_A) (j : Nat) (hB : jz_B h b) (hS : jz_S h S) (hmo : ¬ jC h b 0 0 = 0) (hj : j ≤ jz_nd h b) (hQ : Q none (jS (ju_I h 98 0 (jw_ge l (jw_gd (jC h b) l (jz_nd h b - j) j a))) S)) : jx_W (jm_MD_goesBy, d + 1, 0, 0, false, 1, n0) Q 0 0 2 [some (jv_r 11 0), some (jv_i l), some (jv_i (nI j)), none] [] (jS (ju_I h 98 0 a) S) := by
  have hb2 := hB.2.1
  have hnd := hB.2.2.2.2.1
  have hnd5 := hnd.2
  refine jr_iload rfl rfl ?_
  refine jr_aload rfl rfl ?_
  refine jr_cv0 (mc' := 0) (ms' := 0) rfl jm_MD_dueMany_n jm_MD_dueMany_f rfl rfl rfl rfl rfl rfl rfl (Nat.zero_le _) (Nat.zero_le _) ?_
  show jx_W (jm_MD_dueMany, _, _, _, _, _, _) _ 0 0 0 [some _] [] _
  refine jr_aload rfl rfl ?_
  refine jr_getR rfl rfl rfl rfl (Or.inl rfl) ?_
  refine jr_aload rfl rfl ?_
  refine jr_getI rfl rfl ?_
  refine jr_iald (len := 2) rfl rfl (jz_bankB hB hS) (by omega) ?_
  refine jr_iret rfl rfl (Nat.zero_le _) (Nat.zero_le _) ?_
  rw [show jh_I (jS (ju_I h 98 0 a) S) 68 0 b = nI (jz_nd h b) from hnd.1]
  refine jr_icmp_ge rfl (fun c5 => ?_) (fun c5 => ?_)
  · refine jr_aload rfl rfl ?_
    refine jr_getR rfl rfl rfl rfl (Or.inl rfl) ?_
    refine jr_ic rfl ?_
    refine jr_dup2 rfl ?_
    refine jr_iald (len := 337) rfl rfl (show _ = nI 1 from rfl) (by decide) ?_
    refine jr_iload rfl rfl ?_
    refine jr_iadd rfl ?_
    refine jr_iast (len := 337) rfl rfl (show _ = nI 1 from rfl) (by decide) ?_
    refine jr_aload rfl rfl ?_
    refine jr_getR rfl rfl rfl rfl (Or.inl rfl) ?_
    refine jr_ic rfl ?_
    refine jr_dup2 rfl ?_
    refine jr_iald (len := 337) rfl rfl (show _ = nI 0 from rfl) (by decide) ?_
    refine jr_ic rfl ?_
    refine jr_iadd rfl ?_
    refine jr_iast (len := 337) rfl rfl (show _ = nI 0 from rfl) (by decide) ?_
    refine jr_vret rfl rfl (Nat.zero_le _) (Nat.zero_le _) ?_
    simp only [jS_98, jS_r98]
    have hj2 : jz_nd h b - j = 0 := by have := jn_le (show nI (jz_nd h b) ≤ nI j from c5) (by omega) (by omega); omega
    rw [hj2] at hQ
    exact hQ
  · have hj1 : j < jz_nd h b := jn_nle (show ¬ nI (jz_nd h b) ≤ nI j from c5) (by omega) (by omega)
    have hn : jz_nd h b - j = (jz_nd h b - (j + 1)) + 1 := by omega
    refine jr_ic rfl ?_
    refine jr_aload rfl rfl ?_
    refine jr_getI rfl rfl ?_
    refine jr_imul rfl ?_
    refine jr_iload rfl rfl ?_
    refine jr_iadd rfl ?_
    refine jr_ist3 rfl rfl ?_
    refine jr_aload rfl rfl ?_
    refine jr_getR rfl rfl rfl rfl (Or.inl rfl) ?_
    refine jr_iload rfl rfl ?_
    refine jr_iald (len := 24) rfl rfl (jn_add (jn_mul (show _ = nI 12 from rfl) (jz_bankB hB hS)) rfl) (by omega) ?_
    refine jr_aload rfl rfl ?_
    refine jr_cv0 (mc' := 0) (ms' := 0) rfl jm_MD_month_n jm_MD_month_f rfl rfl rfl rfl rfl rfl rfl (Nat.zero_le _) (Nat.zero_le _) ?_
    refine ev_MD_month (b := b) (jz_bankB hB hS) hb2 hmo ?_
    refine jr_icmp_ne rfl (fun c19 => ?_) (fun c19 => ?_)
    · refine jr_iinc2 rfl rfl ?_
      refine jr_goto rfl ?_
      rw [jn_S]
      rw [hn, jw_gd, show jw_g1 (jC h b) l j a = a from if_neg (fun z => c19 z.1)] at hQ
      exact jr_drop 3 (lp_MD_goesBy a (j + 1) hB hS hmo (by omega) hQ)
    · refine jr_aload rfl rfl ?_
      refine jr_iload rfl rfl ?_
      refine jr_cv1 (mc' := 0) (ms' := 0) rfl jm_MD_isForgiven_n jm_MD_isForgiven_f rfl rfl rfl rfl rfl rfl rfl (Nat.zero_le _) (Nat.zero_le _) ?_
      refine ev_MD_isForgiven ?_
      refine jr_if_eq rfl (fun c23 => ?_) (fun c23 => ?_)
      · refine jr_aload rfl rfl ?_
        refine jr_iload rfl rfl ?_
        refine jr_iload rfl rfl ?_
        refine jr_cv2 (mc' := 0) (ms' := 0) rfl jm_MD_paidOn_n jm_MD_paidOn_f rfl rfl rfl rfl rfl rfl rfl (Nat.zero_le _) (Nat.zero_le _) ?_
        refine ev_MD_paidOn (b := b) (jz_bankB hB hS) hb2 (by omega) ?_
        refine jr_if_ne rfl (fun c29 => ?_) (fun c29 => ?_)
        · obtain ⟨x, y, z, u, m, hx, hy, -, -, -, hx1, hy1, -⟩ := hB.2.2.2.2.2.2.1 j hj1
          have hnp5 := hB.2.2.2.1.2
          refine jr_aload rfl rfl ?_
          refine jr_getR rfl rfl rfl rfl (Or.inl rfl) ?_
          refine jr_ic rfl ?_
          refine jr_iload rfl rfl ?_
          refine jr_iadd rfl ?_
          refine jr_dup2 rfl ?_
          refine jr_iald (len := 337) rfl rfl (jn_add (show _ = nI 12 from rfl) rfl) (by omega) ?_
          refine jr_ic rfl ?_
          refine jr_iadd rfl ?_
          refine jr_iast (len := 337) rfl rfl (jn_add (show _ = nI 12 from rfl) rfl) (by omega) ?_
          refine jr_aload rfl rfl ?_
          refine jr_getR rfl rfl rfl rfl (Or.inl rfl) ?_
          refine jr_ic rfl ?_
          refine jr_aload rfl rfl ?_
          refine jr_getR rfl rfl rfl rfl (Or.inl rfl) ?_
          refine jr_iload rfl rfl ?_
          refine jr_iald (len := 24) rfl rfl (jn_add (jn_mul (show _ = nI 12 from rfl) (jz_bankB hB hS)) rfl) (by omega) ?_
          refine jr_iadd rfl ?_
          refine jr_dup2 rfl ?_
          refine jr_iald (len := 337) rfl rfl (jn_add (show _ = nI 2 from rfl) hx) (by omega) ?_
          refine jr_aload rfl rfl ?_
          refine jr_getR rfl rfl rfl rfl (Or.inl rfl) ?_
          refine jr_iload rfl rfl ?_
          refine jr_iald (len := 24) rfl rfl (jn_add (jn_mul (show _ = nI 12 from rfl) (jz_bankB hB hS)) rfl) (by omega) ?_
          refine jr_isub rfl ?_
          refine jr_iast (len := 337) rfl rfl (jn_add (show _ = nI 2 from rfl) hx) (by omega) ?_
          refine jr_aload rfl rfl ?_
          refine jr_getR rfl rfl rfl rfl (Or.inl rfl) ?_
          refine jr_ic rfl ?_
          refine jr_aload rfl rfl ?_
          refine jr_getR rfl rfl rfl rfl (Or.inl rfl) ?_
          refine jr_iload rfl rfl ?_
          refine jr_iald (len := 24) rfl rfl (jn_add (jn_mul (show _ = nI 12 from rfl) (jz_bankB hB hS)) rfl) (by omega) ?_
          refine jr_iadd rfl ?_
          refine jr_dup2 rfl ?_
          refine jr_iald (len := 337) rfl rfl (jn_add (show _ = nI 2 from rfl) hy) (by omega) ?_
          refine jr_aload rfl rfl ?_
          refine jr_getR rfl rfl rfl rfl (Or.inl rfl) ?_
          refine jr_iload rfl rfl ?_
          refine jr_iald (len := 24) rfl rfl (jn_add (jn_mul (show _ = nI 12 from rfl) (jz_bankB hB hS)) rfl) (by omega) ?_
          refine jr_iadd rfl ?_
          refine jr_iast (len := 337) rfl rfl (jn_add (show _ = nI 2 from rfl) hy) (by omega) ?_
          refine jr_iinc2 rfl rfl ?_
          refine jr_goto rfl ?_
          simp only [jS_98, jS_r98]
          rw [jn_S]
          have e : jw_g1 (jC h b) l j a = upd (upd (upd a (12 + j) (a (12 + j) + 1)) (2 + x) ((upd a (12 + j) (a (12 + j) + 1)) (2 + x) - jC h b 8 j)) (2 + y) ((upd (upd a (12 + j) (a (12 + j) + 1)) (2 + x) ((upd a (12 + j) (a (12 + j) + 1)) (2 + x) - jC h b 8 j)) (2 + y) + jC h b 8 j) := by
            unfold jw_g1
            rw [if_pos ⟨c19, jc_b0 c23⟩, if_neg (show ¬ jw_paid (jC h b) j l = 0 from c29), jn_1 hx (by omega), jn_1 hy (by omega)]
          rw [hn, jw_gd, e] at hQ
          exact jr_drop 3 (lp_MD_goesBy _ (j + 1) hB hS hmo (by omega) hQ)
        · refine jr_aload rfl rfl ?_
          refine jr_getR rfl rfl rfl rfl (Or.inl rfl) ?_
          refine jr_ic rfl ?_
          refine jr_iload rfl rfl ?_
          refine jr_iadd rfl ?_
          refine jr_dup2 rfl ?_
          refine jr_iald (len := 337) rfl rfl (jn_add (show _ = nI 24 from rfl) rfl) (by omega) ?_
          refine jr_ic rfl ?_
          refine jr_iadd rfl ?_
          refine jr_iast (len := 337) rfl rfl (jn_add (show _ = nI 24 from rfl) rfl) (by omega) ?_
          refine jr_goto rfl ?_
          refine jr_iinc2 rfl rfl ?_
          refine jr_goto rfl ?_
          simp only [jS_98, jS_r98]
          rw [jn_S]
          have e : jw_g1 (jC h b) l j a = upd a (24 + j) (a (24 + j) + 1) := by
            unfold jw_g1
            rw [if_pos ⟨c19, jc_b0 c23⟩, if_pos (show jw_paid (jC h b) j l = 0 from c29)]
          rw [hn, jw_gd, e] at hQ
          exact jr_drop 3 (lp_MD_goesBy _ (j + 1) hB hS hmo (by omega) hQ)
      · refine jr_goto rfl ?_
        refine jr_iinc2 rfl rfl ?_
        refine jr_goto rfl ?_
        rw [jn_S]
        rw [hn, jw_gd, show jw_g1 (jC h b) l j a = a from if_neg (fun z => z.2 (jc_b1 c23))] at hQ
        exact jr_drop 3 (lp_MD_goesBy a (j + 1) hB hS hmo (by omega) hQ)
termination_by jz_nd h b - j
decreasing_by all_goals omega

set_option maxHeartbeats 4000000 in
set_option maxRecDepth 100000 in
theorem eS_goesBy {d : Nat} {h : jx_H} {Q : Option jx_V → jx_H → Prop} {b : Nat} {S : Nat → Nat → Int32} {l : Int32} {a : jw_A} (hB : jz_B h b) (hS : jz_S h S) (hmo : ¬ jC h b 0 0 = 0) (hQ : Q none (jS (ju_I h 98 0 (jw_gb (jC h b) (jz_nd h b) l a)) S)) : jx_Ev jm_MD_goesBy (d + 1) 0 0 false 1 [jv_r 11 0, jv_i l] (jS (ju_I h 98 0 a) S) Q := by
  show jx_W (jm_MD_goesBy, d + 1, 0, 0, false, 1, _) Q 0 0 0 [some (jv_r 11 0), some (jv_i l), none, none] [] _
  refine jr_ic rfl ?_
  refine jr_ist2 rfl rfl ?_
  exact lp_MD_goesBy a 0 hB hS hmo (Nat.zero_le _) hQ

set_option maxHeartbeats 4000000 in
set_option maxRecDepth 100000 in
theorem lp_MD_keepHead {d n0 : Nat} {Q : Option jx_V → jx_H → Prop} {h : jx_H} {S0 : Nat → Nat → Int32} (S : Nat → Nat → Int32) (j : Nat) (hj : j ≤ 37) (hH : ∀ q, q < j → S 99 q = jA h q) (hfr : ∀ a, a ≠ 99 → S a = S0 a) (k : ∀ S' : Nat → Nat → Int32, (∀ a, a ≠ 99 → S' a = S0 a) → (∀ q, q < 37 → S' 99 q = jA h q) → Q none (jS h S')) : jx_W (jm_MD_keepHead, d, 0, 0, false, 1, n0) Q 0 0 2 [some (jv_r 11 0), some (jv_i (nI j))] [] (jS h S) := by
  refine jr_iload rfl rfl ?_
  refine jr_ic rfl ?_
  refine jr_icmp_ge rfl (fun c4 => ?_) (fun c4 => ?_)
  · refine jr_vret rfl rfl (Nat.zero_le _) (Nat.zero_le _) ?_
    have hx1 : 37 ≤ j := jn_le (show nI 37 ≤ nI j from c4) (by omega) (by omega)
    exact k S hfr (fun q hq => hH q (by omega))
  · have hl1 : j < 37 := jn_nle (show ¬ nI 37 ≤ nI j from c4) (by omega) (by omega)
    refine jr_aload rfl rfl ?_
    refine jr_getR rfl rfl rfl rfl (Or.inl rfl) ?_
    refine jr_iload rfl rfl ?_
    refine jr_aload rfl rfl ?_
    refine jr_getR rfl rfl rfl rfl (Or.inl rfl) ?_
    refine jr_iload rfl rfl ?_
    refine jr_iald (len := 337) rfl rfl rfl (by omega) ?_
    refine jr_iast (len := 37) rfl rfl rfl (by omega) ?_
    refine jr_iinc1 rfl rfl ?_
    refine jr_goto rfl ?_
    simp only [jS_99, jS_r99]
    rw [jn_S]
    refine lp_MD_keepHead _ (j + 1) (by omega) (fun q hq => ?_) (fun a ha => (if_neg ha).trans (hfr a ha)) k
    show upd (S 99) j (jA h j) q = _
    by_cases e : q = j
    · rw [e, jg_us]
    · rw [jg_un e]; exact hH q (by omega)
termination_by 37 - j
decreasing_by all_goals omega

set_option maxHeartbeats 4000000 in
set_option maxRecDepth 100000 in
theorem eS_keepHead {d : Nat} {h : jx_H} {Q : Option jx_V → jx_H → Prop} {S : Nat → Nat → Int32} (k : ∀ S' : Nat → Nat → Int32, (∀ a, a ≠ 99 → S' a = S a) → (∀ q, q < 37 → S' 99 q = jA h q) → Q none (jS h S')) : jx_Ev jm_MD_keepHead (d) 0 0 false 1 [jv_r 11 0] (jS h S) Q := by
  show jx_W (jm_MD_keepHead, d, 0, 0, false, 1, _) Q 0 0 0 [some (jv_r 11 0), none] [] _
  refine jr_ic rfl ?_
  refine jr_ist1 rfl rfl ?_
  exact lp_MD_keepHead S 0 (by omega) (fun q hq => absurd hq (by omega)) (fun _ _ => rfl) k

set_option maxHeartbeats 4000000 in
set_option maxRecDepth 100000 in
theorem lp_MD_bringHead {d n0 : Nat} {Q : Option jx_V → jx_H → Prop} {h : jx_H} {S : Nat → Nat → Int32} (a : jw_A) (j : Nat) (hj : j ≤ 37) (hH : ∀ q, q < 37 → S 99 q = jA h q) (h1 : ∀ q, q < j → a q = jA h q) (h2 : ∀ q, 37 ≤ q → a q = jA h q) (hQ : Q none (jS h S)) : jx_W (jm_MD_bringHead, d, 0, 0, false, 1, n0) Q 0 0 2 [some (jv_r 11 0), some (jv_i (nI j))] [] (jS (ju_I h 98 0 a) S) := by
  refine jr_iload rfl rfl ?_
  refine jr_ic rfl ?_
  refine jr_icmp_ge rfl (fun c4 => ?_) (fun c4 => ?_)
  · refine jr_vret rfl rfl (Nat.zero_le _) (Nat.zero_le _) ?_
    have hx1 : 37 ≤ j := jn_le (show nI 37 ≤ nI j from c4) (by omega) (by omega)
    have e : a = jA h := by
      funext q
      rcases Nat.lt_or_ge q 37 with hq | hq
      · exact h1 q (by omega)
      · exact h2 q hq
    rw [e, jg_self]
    exact hQ
  · have hl1 : j < 37 := jn_nle (show ¬ nI 37 ≤ nI j from c4) (by omega) (by omega)
    refine jr_aload rfl rfl ?_
    refine jr_getR rfl rfl rfl rfl (Or.inl rfl) ?_
    refine jr_iload rfl rfl ?_
    refine jr_aload rfl rfl ?_
    refine jr_getR rfl rfl rfl rfl (Or.inl rfl) ?_
    refine jr_iload rfl rfl ?_
    refine jr_iald (len := 37) rfl rfl rfl (by omega) ?_
    refine jr_iast (len := 337) rfl rfl rfl (by omega) ?_
    refine jr_iinc1 rfl rfl ?_
    refine jr_goto rfl ?_
    simp only [jS_98, jS_r98]
    rw [jn_S]
    refine lp_MD_bringHead _ (j + 1) (by omega) hH (fun q hq => ?_) (fun q hq => (jg_un (by omega)).trans (h2 q hq)) hQ
    show upd a j (S 99 j) q = _
    by_cases e : q = j
    · rw [e, jg_us]; exact hH j hl1
    · rw [jg_un e]; exact h1 q (by omega)
termination_by 37 - j
decreasing_by all_goals omega

set_option maxHeartbeats 4000000 in
set_option maxRecDepth 100000 in
theorem eS_bringHead {d : Nat} {h : jx_H} {Q : Option jx_V → jx_H → Prop} {S : Nat → Nat → Int32} {a : jw_A} (hH : ∀ q, q < 37 → S 99 q = jA h q) (h2 : ∀ q, 37 ≤ q → a q = jA h q) (hQ : Q none (jS h S)) : jx_Ev jm_MD_bringHead (d) 0 0 false 1 [jv_r 11 0] (jS (ju_I h 98 0 a) S) Q := by
  show jx_W (jm_MD_bringHead, d, 0, 0, false, 1, _) Q 0 0 0 [some (jv_r 11 0), none] [] _
  refine jr_ic rfl ?_
  refine jr_ist1 rfl rfl ?_
  exact lp_MD_bringHead a 0 (by omega) hH (fun q hq => absurd hq (by omega)) h2 hQ

