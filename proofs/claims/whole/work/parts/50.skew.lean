/-- repair's length -/
def jw_rpl (M U : Nat → Int32) : Nat → Nat → Int32 → Int32
  | 0, _, last => last
  | n + 1, l, last => if M l = 0 then jw_rpl M U n (l + 1) last else if U l < 0 then jw_rpl M U n (l + 1) (nI l) else nI l
theorem jw_rpl_any {M U : Nat → Int32} : ∀ {n l : Nat} {x y : Int32}, (∃ j, l ≤ j ∧ j < l + n ∧ ¬ M j = 0) → jw_rpl M U n l x = jw_rpl M U n l y
  | 0, l, x, y, ⟨j, h1, h2, _⟩ => by omega
  | n + 1, l, x, y, ⟨j, h1, h2, h3⟩ => by
    rw [jw_rpl, jw_rpl]
    by_cases e : M l = 0
    · rw [if_pos e, if_pos e]
      refine jw_rpl_any ⟨j, ?_, by omega, h3⟩
      rcases Nat.eq_or_lt_of_le h1 with e2 | e2
      · rw [e2] at e; exact absurd e h3
      · omega
    · rw [if_neg e, if_neg e]
theorem jw_rpl_in {M U : Nat → Int32} : ∀ {n l : Nat} {x : Int32}, l + n ≤ 32 → ((∃ j, l ≤ j ∧ j < l + n ∧ ¬ M j = 0) ∨ ∃ v : Nat, x = nI v ∧ v ≤ 31) → ∃ v : Nat, jw_rpl M U n l x = nI v ∧ v ≤ 31
  | 0, l, x, _, h => by
    rcases h with ⟨j, h1, h2, -⟩ | h
    · omega
    · exact h
  | n + 1, l, x, hl, h => by
    rw [jw_rpl]
    by_cases e : M l = 0
    · rw [if_pos e]
      refine jw_rpl_in (by omega) ?_
      rcases h with ⟨j, h1, h2, h3⟩ | h
      · refine Or.inl ⟨j, ?_, by omega, h3⟩
        rcases Nat.eq_or_lt_of_le h1 with e2 | e2
        · rw [e2] at e; exact absurd e h3
        · omega
      · exact Or.inr h
    · rw [if_neg e]
      split
      · exact jw_rpl_in (by omega) (Or.inr ⟨l, rfl, by omega⟩)
      · exact ⟨l, rfl, by omega⟩
abbrev jw_ru2 (hm : jx_H) (b : Nat) (l : Nat) : Int32 := jw_dU (jC hm b) (jA hm 1 + nI l) (jA hm 0 + 1)
def jw_rp (hm : jx_H) (b : Nat) : Int32 := jw_rpl (jw_mayb hm b) (jw_ru2 hm b) 32 0 (-1)
def jw_rl (hm : jx_H) (b : Nat) (z : Int32) : Int32 := if z = 0 then jw_counted hm b else jw_rp hm b
theorem jw_rl_in {hm : jx_H} {b : Nat} {z : Int32} (hw : jz_W hm b) (hmo : ¬ jC hm b 0 0 = 0) : ∃ v : Nat, jw_rl hm b z = nI v ∧ v ≤ 31 := by
  unfold jw_rl
  split
  · exact jw_counted_in hw hmo
  · obtain ⟨j, h1, h2⟩ := jw_mayb_ex hw hmo
    exact jw_rpl_in (Nat.le_refl _) (Or.inl ⟨j, Nat.zero_le _, by omega, h2⟩)
abbrev jw_abs (u : Int32) : Int32 := if 0 ≤ u then u else -u
def jw_sks (hm : jx_H) (b : Nat) (z w : Int32) : Nat → Nat → jw_A → Int32
  | 0, _, _ => -1
  | n + 1, k, a =>
    if jw_abs (jw_dU (jC hm b) (jw_gb (jC hm b) (jz_nd hm b) (jw_rl (jw_h hm a) b z) a 1) (jw_gb (jC hm b) (jz_nd hm b) (jw_rl (jw_h hm a) b z) a 0)) ≤ w * jw_dL (jC hm b)
    then jw_sks hm b z w n (k + 1) (jw_gb (jC hm b) (jz_nd hm b) (jw_rl (jw_h hm a) b z) a) else nI k
set_option maxHeartbeats 800000 in
set_option maxRecDepth 100000 in
theorem lp_MD_repaired {d n0 : Nat} {Q : Option jx_V → jx_H → Prop} {h : jx_H} {b : Nat} {S : Nat → Nat → Int32} (l : Nat) (last : Int32) (hw : jz_W h b) (hS : jz_S h S) (hmo : ¬ jC h b 0 0 = 0) (hl : l ≤ 32) (hM : ∀ j, j < 32 → S 100 j = jw_mayb h b j) (hQ : Q (some (jv_i (jw_rpl (jw_mayb h b) (jw_ru2 h b) (32 - l) l last))) (jS h S))  : jx_W (jm_MD_repaired, d + 3, 0, 0, false, 1, n0) Q 0 0 6 [some (jv_r 11 0), some (jv_i last), some (jv_i (nI l))] [] (jS h S) := by
  have hb2 := hw.2.1
  refine jr_iload rfl rfl ?_
  refine jr_ic rfl ?_
  refine jr_icmp_gt rfl (fun c8 => ?_) (fun c8 => ?_)
  · refine jr_iload rfl rfl ?_
    refine jr_iret rfl rfl (Nat.zero_le _) (Nat.zero_le _) ?_
    have hx1 : 31 < l := jn_lt (show nI 31 < nI l from c8) (by omega) (by omega)
    rw [show 32 - l = 0 by omega] at hQ
    exact hQ
  · have hl1 : l ≤ 31 := jn_nlt (show ¬ nI 31 < nI l from c8) (by omega) (by omega)
    have hn : 32 - l = (32 - (l + 1)) + 1 := by omega
    refine jr_aload rfl rfl ?_
    refine jr_getR rfl rfl rfl rfl (Or.inl rfl) ?_
    refine jr_iload rfl rfl ?_
    refine jr_zald (len := 32) rfl rfl rfl (by omega) ?_
    rw [show jh_I (jS h S) 100 0 l = jw_mayb h b l from hM l (by omega)]
    refine jr_if_ne rfl (fun c13 => ?_) (fun c13 => ?_)
    · refine jr_iload rfl rfl ?_
      refine jr_ist1 rfl rfl ?_
      refine jr_aload rfl rfl ?_
      refine jr_aload rfl rfl ?_
      refine jr_getR rfl rfl rfl rfl (Or.inl rfl) ?_
      refine jr_ic rfl ?_
      refine jr_iald (len := 337) rfl rfl (show _ = nI 1 from rfl) (by decide) ?_
      refine jr_iload rfl rfl ?_
      refine jr_iadd rfl ?_
      refine jr_aload rfl rfl ?_
      refine jr_getR rfl rfl rfl rfl (Or.inl rfl) ?_
      refine jr_ic rfl ?_
      refine jr_iald (len := 337) rfl rfl (show _ = nI 0 from rfl) (by decide) ?_
      refine jr_ic rfl ?_
      refine jr_iadd rfl ?_
      refine jr_cv2 (mc' := 0) (ms' := 0) rfl jm_MD_driftUpper_n jm_MD_driftUpper_f rfl rfl rfl rfl rfl rfl rfl (Nat.zero_le _) (Nat.zero_le _) ?_
      refine ev_MD_driftUpper (b := b) (jz_bank hw hS) hb2 ?_
      refine jr_if_lt rfl (fun c31 => ?_) (fun c31 => ?_)
      · refine jr_iinc2 rfl rfl ?_
        refine jr_goto rfl ?_
        rw [jn_S]
        refine lp_MD_repaired (l + 1) _ hw hS hmo (by omega) hM ?_
        rw [hn, jw_rpl, if_neg c13, if_pos (show jw_ru2 h b l < 0 from c31)] at hQ
        exact hQ
      · refine jr_iload rfl rfl ?_
        refine jr_iret rfl rfl (Nat.zero_le _) (Nat.zero_le _) ?_
        rw [hn, jw_rpl, if_neg c13, if_neg (show ¬ jw_ru2 h b l < 0 from c31)] at hQ
        exact hQ
    · refine jr_goto rfl ?_
      refine jr_iinc2 rfl rfl ?_
      refine jr_goto rfl ?_
      rw [jn_S]
      refine lp_MD_repaired (l + 1) _ hw hS hmo (by omega) hM ?_
      rw [hn, jw_rpl, if_pos c13] at hQ
      exact hQ
termination_by 32 - l
decreasing_by all_goals omega

set_option maxHeartbeats 800000 in
set_option maxRecDepth 100000 in
theorem eS_repaired {d : Nat} {h : jx_H} {Q : Option jx_V → jx_H → Prop} {b : Nat} {S0 : Nat → Nat → Int32} (hw : jz_W h b) (hS : jz_S h S0) (hmo : ¬ jC h b 0 0 = 0) (k : ∀ S' : Nat → Nat → Int32, jz_S h S' → S' 99 = S0 99 → Q (some (jv_i (jw_rp h b))) (jS h S'))  : jx_Ev jm_MD_repaired (d + 5) 0 0 false 1 [jv_r 11 0] (jS h S0) Q := by
  show jx_W (jm_MD_repaired, d + 5, 0, 0, false, 1, _) Q 0 0 0 [some (jv_r 11 0), none, none] [] _
  refine jr_aload rfl rfl ?_
  refine jr_cv0 (mc' := 0) (ms' := 0) rfl jm_MD_layMay_n jm_MD_layMay_f rfl rfl rfl rfl rfl rfl rfl (Nat.zero_le _) (Nat.zero_le _) ?_
  refine eS_layMay (b := b) hw hS hmo (fun S1 hS1 hf1 hM1 => ?_)
  refine jr_ic rfl ?_
  refine jr_ist1 rfl rfl ?_
  refine jr_ic rfl ?_
  refine jr_ist2 rfl rfl ?_
  exact lp_MD_repaired 0 _ hw hS1 hmo (by omega) hM1 (k S1 hS1 (hf1 99 (by decide) (by decide) (by decide)))

set_option maxHeartbeats 800000 in
set_option maxRecDepth 100000 in
theorem lp_MD_skew {d n0 : Nat} {Q : Option jx_V → jx_H → Prop} {hm : jx_H} {b n w : Nat} {y z : Int32} (S : Nat → Nat → Int32) (k : Nat) (a : jw_A) (hB : jz_B hm b) (hS : jz_S hm S) (hmo : ¬ jC hm b 0 0 = 0) (hA : jz_A (jz_np hm b) (jz_nm hm b) a) (hw : a 0 = nI w) (hS9 : ∀ q, q < 37 → S 99 q = jA hm q) (hhi : ∀ q, 37 ≤ q → a q = jA hm q) (hk : k ≤ n + 1) (hwn : w + (n + 1 - k) ≤ 511) (hk2 : n ≤ 120) (kk : ∀ S' : Nat → Nat → Int32, jz_S hm S' → Q (some (jv_i (jw_sks hm b z y (n + 1 - k) k a))) (jS hm S'))  : jx_W (jm_MD_skew, d + 30, 0, 0, false, 1, n0) Q 0 0 21 [some (jv_r 11 0), some (jv_i (nI n)), some (jv_i y), some (jv_i z), some (jv_i (-1)), some (jv_i (nI k))] [] (jS (jw_h hm a) S) := by
  have hb2 := hB.2.1
  refine jr_iload rfl rfl ?_
  refine jr_iload rfl rfl ?_
  refine jr_icmp_gt rfl (fun c23 => ?_) (fun c23 => ?_)
  · refine jr_aload rfl rfl ?_
    refine jr_cv0 (mc' := 0) (ms' := 0) rfl jm_MD_bringHead_n jm_MD_bringHead_f rfl rfl rfl rfl rfl rfl rfl (Nat.zero_le _) (Nat.zero_le _) ?_
    refine eS_bringHead (h := hm) (fun q hq => hS9 q hq) (fun q hq => hhi q hq) ?_
    refine jr_iload rfl rfl ?_
    refine jr_iret rfl rfl (Nat.zero_le _) (Nat.zero_le _) ?_
    have hk1 : n < k := jn_lt (show nI n < nI k from c23) (by omega) (by omega)
    have := kk S hS
    rw [show n + 1 - k = 0 by omega] at this
    exact this
  · have hk1 : k ≤ n := jn_nlt (show ¬ nI n < nI k from c23) (by omega) (by omega)
    have hn : n + 1 - k = (n + 1 - (k + 1)) + 1 := by omega
    refine jr_iload rfl rfl ?_
    refine jr_if_ge rfl (fun z => absurd z (by decide)) (fun _ => ?_)
    refine jr_aload rfl rfl ?_
    refine jr_iload rfl rfl ?_
    refine jr_if_eq rfl (fun c28 => ?_) (fun c28 => ?_)
    · refine jr_aload rfl rfl ?_
      refine jr_cv0 (mc' := 0) (ms' := 0) rfl jm_MD_countedNow_n jm_MD_countedNow_f rfl rfl rfl rfl rfl rfl rfl (Nat.zero_le _) (Nat.zero_le _) ?_
      refine eS_countedNow (b := b) (jz_Wa hB hA) hS hmo (fun S1 hS1 hf1 => ?_)
      refine jr_cv1 (mc' := 0) (ms' := 0) rfl jm_MD_goesBy_n jm_MD_goesBy_f rfl rfl rfl rfl rfl rfl rfl (Nat.zero_le _) (Nat.zero_le _) ?_
      have h99 : S1 99 = S 99 := hf1 99 (by decide) (by decide) (by decide) (by decide) (by decide)
      obtain ⟨v, hv, hv2⟩ := jw_rl_in (z := z) (jz_Wa hB hA) hmo
      have hrl : jw_rl (jw_h hm a) b z = jw_counted (jw_h hm a) b := if_pos c28
      obtain ⟨hA1, hw1⟩ := jz_A_gb hB.2.2 hmo hA hw (by omega) hv2
      rw [← hv] at hA1 hw1
      have hhi1 : ∀ q, 37 ≤ q → (jw_gb (jC hm b) (jz_nd hm b) (jw_rl (jw_h hm a) b z) a) q = jA hm q := fun q hq => (jw_gb_hi hB.2.2 (Or.inr (by omega))).trans (hhi q hq)
      rw [← hrl]
      refine eS_goesBy (b := b) (h := hm) hB hS1 hmo ?_
      refine jr_aload rfl rfl ?_
      refine jr_iload rfl rfl ?_
      refine jr_cv1 (mc' := 0) (ms' := 0) rfl jm_MD_isOff_n jm_MD_isOff_f rfl rfl rfl rfl rfl rfl rfl (Nat.zero_le _) (Nat.zero_le _) ?_
      show jx_W (jm_MD_isOff, _, _, _, _, _, _) _ 0 0 0 [some _, some _, none] [] _
      refine jr_aload rfl rfl ?_
      refine jr_aload rfl rfl ?_
      refine jr_getR rfl rfl rfl rfl (Or.inl rfl) ?_
      refine jr_ic rfl ?_
      refine jr_iald (len := 337) rfl rfl (show _ = nI 1 from rfl) (by decide) ?_
      refine jr_aload rfl rfl ?_
      refine jr_getR rfl rfl rfl rfl (Or.inl rfl) ?_
      refine jr_ic rfl ?_
      refine jr_iald (len := 337) rfl rfl (show _ = nI 0 from rfl) (by decide) ?_
      refine jr_cv2 (mc' := 0) (ms' := 0) rfl jm_MD_driftUpper_n jm_MD_driftUpper_f rfl rfl rfl rfl rfl rfl rfl (Nat.zero_le _) (Nat.zero_le _) ?_
      refine ev_MD_driftUpper (b := b) (jz_bankB hB hS1) hb2 ?_
      refine jr_ist2 rfl rfl ?_
      refine jr_iload rfl rfl ?_
      refine jr_if_ge rfl (fun c12MDisOff => ?_) (fun c12MDisOff => ?_)
      · refine jr_iload rfl rfl ?_
        refine jr_iload rfl rfl ?_
        refine jr_aload rfl rfl ?_
        refine jr_cv0 (mc' := 0) (ms' := 0) rfl jm_MD_driftLower_n jm_MD_driftLower_f rfl rfl rfl rfl rfl rfl rfl (Nat.zero_le _) (Nat.zero_le _) ?_
        refine ev_MD_driftLower (b := b) (jz_bankB hB hS1) hb2 ?_
        refine jr_imul rfl ?_
        refine jr_icmp_le rfl (fun c21MDisOff => ?_) (fun c21MDisOff => ?_)
        · refine jr_ic rfl ?_
          refine jr_zret rfl rfl rfl (Nat.zero_le _) (Nat.zero_le _) ?_
          refine jr_if_eq rfl (fun _ => ?_) (fun z => absurd (by decide) z)
          refine jr_iinc5 rfl rfl ?_
          refine jr_goto rfl ?_
          rw [jn_S]
          refine lp_MD_skew S1 (k + 1) _ hB hS1 hmo hA1 hw1 (fun q hq => by rw [h99]; exact hS9 q hq) hhi1 (by omega) (by omega) hk2 (fun S' hS' => ?_)
          have := kk S' hS'
          rw [hn, jw_sks, if_pos (show jw_abs (jw_dU (jC hm b) ((jw_gb (jC hm b) (jz_nd hm b) (jw_rl (jw_h hm a) b z) a) 1) ((jw_gb (jC hm b) (jz_nd hm b) (jw_rl (jw_h hm a) b z) a) 0)) ≤ y * jw_dL (jC hm b) from (by unfold jw_abs; rw [if_pos (show 0 ≤ jw_dU (jC hm b) ((jw_gb (jC hm b) (jz_nd hm b) (jw_rl (jw_h hm a) b z) a) 1) ((jw_gb (jC hm b) (jz_nd hm b) (jw_rl (jw_h hm a) b z) a) 0) from c12MDisOff)]; exact c21MDisOff))] at this
          exact this
        · refine jr_ic rfl ?_
          refine jr_goto rfl ?_
          refine jr_zret rfl rfl rfl (Nat.zero_le _) (Nat.zero_le _) ?_
          refine jr_if_eq rfl (fun z => absurd z (by decide)) (fun _ => ?_)
          refine jr_iload rfl rfl ?_
          refine jr_ist4 rfl rfl ?_
          refine jr_iinc5 rfl rfl ?_
          refine jr_goto rfl ?_
          have hoff : ¬ jw_abs (jw_dU (jC hm b) ((jw_gb (jC hm b) (jz_nd hm b) (jw_rl (jw_h hm a) b z) a) 1) ((jw_gb (jC hm b) (jz_nd hm b) (jw_rl (jw_h hm a) b z) a) 0)) ≤ y * jw_dL (jC hm b) := by unfold jw_abs; rw [if_pos (show 0 ≤ jw_dU (jC hm b) ((jw_gb (jC hm b) (jz_nd hm b) (jw_rl (jw_h hm a) b z) a) 1) ((jw_gb (jC hm b) (jz_nd hm b) (jw_rl (jw_h hm a) b z) a) 0) from c12MDisOff)]; exact c21MDisOff
          rw [jn_S]
          refine jr_iload rfl rfl ?_
          refine jr_iload rfl rfl ?_
          refine jr_icmp_gt rfl (fun c23 => ?_) (fun c23 => ?_)
          · refine jr_aload rfl rfl ?_
            refine jr_cv0 (mc' := 0) (ms' := 0) rfl jm_MD_bringHead_n jm_MD_bringHead_f rfl rfl rfl rfl rfl rfl rfl (Nat.zero_le _) (Nat.zero_le _) ?_
            refine eS_bringHead (h := hm) (fun q hq => by rw [h99]; exact hS9 q hq) (fun q hq => hhi1 q hq) ?_
            refine jr_iload rfl rfl ?_
            refine jr_iret rfl rfl (Nat.zero_le _) (Nat.zero_le _) ?_
            have := kk S1 hS1
            rw [hn, jw_sks, if_neg hoff] at this
            exact this
          · refine jr_iload rfl rfl ?_
            refine jr_if_ge rfl (fun _ => ?_) (fun z => absurd (nI_pos' (by omega)) z)
            refine jr_aload rfl rfl ?_
            refine jr_cv0 (mc' := 0) (ms' := 0) rfl jm_MD_bringHead_n jm_MD_bringHead_f rfl rfl rfl rfl rfl rfl rfl (Nat.zero_le _) (Nat.zero_le _) ?_
            refine eS_bringHead (h := hm) (fun q hq => by rw [h99]; exact hS9 q hq) (fun q hq => hhi1 q hq) ?_
            refine jr_iload rfl rfl ?_
            refine jr_iret rfl rfl (Nat.zero_le _) (Nat.zero_le _) ?_
            have := kk S1 hS1
            rw [hn, jw_sks, if_neg hoff] at this
            exact this
      · refine jr_iload rfl rfl ?_
        refine jr_ineg rfl ?_
        refine jr_goto rfl ?_
        refine jr_iload rfl rfl ?_
        refine jr_aload rfl rfl ?_
        refine jr_cv0 (mc' := 0) (ms' := 0) rfl jm_MD_driftLower_n jm_MD_driftLower_f rfl rfl rfl rfl rfl rfl rfl (Nat.zero_le _) (Nat.zero_le _) ?_
        refine ev_MD_driftLower (b := b) (jz_bankB hB hS1) hb2 ?_
        refine jr_imul rfl ?_
        refine jr_icmp_le rfl (fun c21MDisOff => ?_) (fun c21MDisOff => ?_)
        · refine jr_ic rfl ?_
          refine jr_zret rfl rfl rfl (Nat.zero_le _) (Nat.zero_le _) ?_
          refine jr_if_eq rfl (fun _ => ?_) (fun z => absurd (by decide) z)
          refine jr_iinc5 rfl rfl ?_
          refine jr_goto rfl ?_
          rw [jn_S]
          refine lp_MD_skew S1 (k + 1) _ hB hS1 hmo hA1 hw1 (fun q hq => by rw [h99]; exact hS9 q hq) hhi1 (by omega) (by omega) hk2 (fun S' hS' => ?_)
          have := kk S' hS'
          rw [hn, jw_sks, if_pos (show jw_abs (jw_dU (jC hm b) ((jw_gb (jC hm b) (jz_nd hm b) (jw_rl (jw_h hm a) b z) a) 1) ((jw_gb (jC hm b) (jz_nd hm b) (jw_rl (jw_h hm a) b z) a) 0)) ≤ y * jw_dL (jC hm b) from (by unfold jw_abs; rw [if_neg (show ¬ 0 ≤ jw_dU (jC hm b) ((jw_gb (jC hm b) (jz_nd hm b) (jw_rl (jw_h hm a) b z) a) 1) ((jw_gb (jC hm b) (jz_nd hm b) (jw_rl (jw_h hm a) b z) a) 0) from c12MDisOff)]; exact c21MDisOff))] at this
          exact this
        · refine jr_ic rfl ?_
          refine jr_goto rfl ?_
          refine jr_zret rfl rfl rfl (Nat.zero_le _) (Nat.zero_le _) ?_
          refine jr_if_eq rfl (fun z => absurd z (by decide)) (fun _ => ?_)
          refine jr_iload rfl rfl ?_
          refine jr_ist4 rfl rfl ?_
          refine jr_iinc5 rfl rfl ?_
          refine jr_goto rfl ?_
          have hoff : ¬ jw_abs (jw_dU (jC hm b) ((jw_gb (jC hm b) (jz_nd hm b) (jw_rl (jw_h hm a) b z) a) 1) ((jw_gb (jC hm b) (jz_nd hm b) (jw_rl (jw_h hm a) b z) a) 0)) ≤ y * jw_dL (jC hm b) := by unfold jw_abs; rw [if_neg (show ¬ 0 ≤ jw_dU (jC hm b) ((jw_gb (jC hm b) (jz_nd hm b) (jw_rl (jw_h hm a) b z) a) 1) ((jw_gb (jC hm b) (jz_nd hm b) (jw_rl (jw_h hm a) b z) a) 0) from c12MDisOff)]; exact c21MDisOff
          rw [jn_S]
          refine jr_iload rfl rfl ?_
          refine jr_iload rfl rfl ?_
          refine jr_icmp_gt rfl (fun c23 => ?_) (fun c23 => ?_)
          · refine jr_aload rfl rfl ?_
            refine jr_cv0 (mc' := 0) (ms' := 0) rfl jm_MD_bringHead_n jm_MD_bringHead_f rfl rfl rfl rfl rfl rfl rfl (Nat.zero_le _) (Nat.zero_le _) ?_
            refine eS_bringHead (h := hm) (fun q hq => by rw [h99]; exact hS9 q hq) (fun q hq => hhi1 q hq) ?_
            refine jr_iload rfl rfl ?_
            refine jr_iret rfl rfl (Nat.zero_le _) (Nat.zero_le _) ?_
            have := kk S1 hS1
            rw [hn, jw_sks, if_neg hoff] at this
            exact this
          · refine jr_iload rfl rfl ?_
            refine jr_if_ge rfl (fun _ => ?_) (fun z => absurd (nI_pos' (by omega)) z)
            refine jr_aload rfl rfl ?_
            refine jr_cv0 (mc' := 0) (ms' := 0) rfl jm_MD_bringHead_n jm_MD_bringHead_f rfl rfl rfl rfl rfl rfl rfl (Nat.zero_le _) (Nat.zero_le _) ?_
            refine eS_bringHead (h := hm) (fun q hq => by rw [h99]; exact hS9 q hq) (fun q hq => hhi1 q hq) ?_
            refine jr_iload rfl rfl ?_
            refine jr_iret rfl rfl (Nat.zero_le _) (Nat.zero_le _) ?_
            have := kk S1 hS1
            rw [hn, jw_sks, if_neg hoff] at this
            exact this
    · refine jr_aload rfl rfl ?_
      refine jr_cv0 (mc' := 0) (ms' := 0) rfl jm_MD_repaired_n jm_MD_repaired_f rfl rfl rfl rfl rfl rfl rfl (Nat.zero_le _) (Nat.zero_le _) ?_
      refine eS_repaired (b := b) (jz_Wa hB hA) hS hmo (fun S1 hS1 hf1 => ?_)
      refine jr_goto rfl ?_
      refine jr_cv1 (mc' := 0) (ms' := 0) rfl jm_MD_goesBy_n jm_MD_goesBy_f rfl rfl rfl rfl rfl rfl rfl (Nat.zero_le _) (Nat.zero_le _) ?_
      have h99 : S1 99 = S 99 := hf1
      obtain ⟨v, hv, hv2⟩ := jw_rl_in (z := z) (jz_Wa hB hA) hmo
      have hrl : jw_rl (jw_h hm a) b z = jw_rp (jw_h hm a) b := if_neg c28
      obtain ⟨hA1, hw1⟩ := jz_A_gb hB.2.2 hmo hA hw (by omega) hv2
      rw [← hv] at hA1 hw1
      have hhi1 : ∀ q, 37 ≤ q → (jw_gb (jC hm b) (jz_nd hm b) (jw_rl (jw_h hm a) b z) a) q = jA hm q := fun q hq => (jw_gb_hi hB.2.2 (Or.inr (by omega))).trans (hhi q hq)
      rw [← hrl]
      refine eS_goesBy (b := b) (h := hm) hB hS1 hmo ?_
      refine jr_aload rfl rfl ?_
      refine jr_iload rfl rfl ?_
      refine jr_cv1 (mc' := 0) (ms' := 0) rfl jm_MD_isOff_n jm_MD_isOff_f rfl rfl rfl rfl rfl rfl rfl (Nat.zero_le _) (Nat.zero_le _) ?_
      show jx_W (jm_MD_isOff, _, _, _, _, _, _) _ 0 0 0 [some _, some _, none] [] _
      refine jr_aload rfl rfl ?_
      refine jr_aload rfl rfl ?_
      refine jr_getR rfl rfl rfl rfl (Or.inl rfl) ?_
      refine jr_ic rfl ?_
      refine jr_iald (len := 337) rfl rfl (show _ = nI 1 from rfl) (by decide) ?_
      refine jr_aload rfl rfl ?_
      refine jr_getR rfl rfl rfl rfl (Or.inl rfl) ?_
      refine jr_ic rfl ?_
      refine jr_iald (len := 337) rfl rfl (show _ = nI 0 from rfl) (by decide) ?_
      refine jr_cv2 (mc' := 0) (ms' := 0) rfl jm_MD_driftUpper_n jm_MD_driftUpper_f rfl rfl rfl rfl rfl rfl rfl (Nat.zero_le _) (Nat.zero_le _) ?_
      refine ev_MD_driftUpper (b := b) (jz_bankB hB hS1) hb2 ?_
      refine jr_ist2 rfl rfl ?_
      refine jr_iload rfl rfl ?_
      refine jr_if_ge rfl (fun c12MDisOff => ?_) (fun c12MDisOff => ?_)
      · refine jr_iload rfl rfl ?_
        refine jr_iload rfl rfl ?_
        refine jr_aload rfl rfl ?_
        refine jr_cv0 (mc' := 0) (ms' := 0) rfl jm_MD_driftLower_n jm_MD_driftLower_f rfl rfl rfl rfl rfl rfl rfl (Nat.zero_le _) (Nat.zero_le _) ?_
        refine ev_MD_driftLower (b := b) (jz_bankB hB hS1) hb2 ?_
        refine jr_imul rfl ?_
        refine jr_icmp_le rfl (fun c21MDisOff => ?_) (fun c21MDisOff => ?_)
        · refine jr_ic rfl ?_
          refine jr_zret rfl rfl rfl (Nat.zero_le _) (Nat.zero_le _) ?_
          refine jr_if_eq rfl (fun _ => ?_) (fun z => absurd (by decide) z)
          refine jr_iinc5 rfl rfl ?_
          refine jr_goto rfl ?_
          rw [jn_S]
          refine lp_MD_skew S1 (k + 1) _ hB hS1 hmo hA1 hw1 (fun q hq => by rw [h99]; exact hS9 q hq) hhi1 (by omega) (by omega) hk2 (fun S' hS' => ?_)
          have := kk S' hS'
          rw [hn, jw_sks, if_pos (show jw_abs (jw_dU (jC hm b) ((jw_gb (jC hm b) (jz_nd hm b) (jw_rl (jw_h hm a) b z) a) 1) ((jw_gb (jC hm b) (jz_nd hm b) (jw_rl (jw_h hm a) b z) a) 0)) ≤ y * jw_dL (jC hm b) from (by unfold jw_abs; rw [if_pos (show 0 ≤ jw_dU (jC hm b) ((jw_gb (jC hm b) (jz_nd hm b) (jw_rl (jw_h hm a) b z) a) 1) ((jw_gb (jC hm b) (jz_nd hm b) (jw_rl (jw_h hm a) b z) a) 0) from c12MDisOff)]; exact c21MDisOff))] at this
          exact this
        · refine jr_ic rfl ?_
          refine jr_goto rfl ?_
          refine jr_zret rfl rfl rfl (Nat.zero_le _) (Nat.zero_le _) ?_
          refine jr_if_eq rfl (fun z => absurd z (by decide)) (fun _ => ?_)
          refine jr_iload rfl rfl ?_
          refine jr_ist4 rfl rfl ?_
          refine jr_iinc5 rfl rfl ?_
          refine jr_goto rfl ?_
          have hoff : ¬ jw_abs (jw_dU (jC hm b) ((jw_gb (jC hm b) (jz_nd hm b) (jw_rl (jw_h hm a) b z) a) 1) ((jw_gb (jC hm b) (jz_nd hm b) (jw_rl (jw_h hm a) b z) a) 0)) ≤ y * jw_dL (jC hm b) := by unfold jw_abs; rw [if_pos (show 0 ≤ jw_dU (jC hm b) ((jw_gb (jC hm b) (jz_nd hm b) (jw_rl (jw_h hm a) b z) a) 1) ((jw_gb (jC hm b) (jz_nd hm b) (jw_rl (jw_h hm a) b z) a) 0) from c12MDisOff)]; exact c21MDisOff
          rw [jn_S]
          refine jr_iload rfl rfl ?_
          refine jr_iload rfl rfl ?_
          refine jr_icmp_gt rfl (fun c23 => ?_) (fun c23 => ?_)
          · refine jr_aload rfl rfl ?_
            refine jr_cv0 (mc' := 0) (ms' := 0) rfl jm_MD_bringHead_n jm_MD_bringHead_f rfl rfl rfl rfl rfl rfl rfl (Nat.zero_le _) (Nat.zero_le _) ?_
            refine eS_bringHead (h := hm) (fun q hq => by rw [h99]; exact hS9 q hq) (fun q hq => hhi1 q hq) ?_
            refine jr_iload rfl rfl ?_
            refine jr_iret rfl rfl (Nat.zero_le _) (Nat.zero_le _) ?_
            have := kk S1 hS1
            rw [hn, jw_sks, if_neg hoff] at this
            exact this
          · refine jr_iload rfl rfl ?_
            refine jr_if_ge rfl (fun _ => ?_) (fun z => absurd (nI_pos' (by omega)) z)
            refine jr_aload rfl rfl ?_
            refine jr_cv0 (mc' := 0) (ms' := 0) rfl jm_MD_bringHead_n jm_MD_bringHead_f rfl rfl rfl rfl rfl rfl rfl (Nat.zero_le _) (Nat.zero_le _) ?_
            refine eS_bringHead (h := hm) (fun q hq => by rw [h99]; exact hS9 q hq) (fun q hq => hhi1 q hq) ?_
            refine jr_iload rfl rfl ?_
            refine jr_iret rfl rfl (Nat.zero_le _) (Nat.zero_le _) ?_
            have := kk S1 hS1
            rw [hn, jw_sks, if_neg hoff] at this
            exact this
      · refine jr_iload rfl rfl ?_
        refine jr_ineg rfl ?_
        refine jr_goto rfl ?_
        refine jr_iload rfl rfl ?_
        refine jr_aload rfl rfl ?_
        refine jr_cv0 (mc' := 0) (ms' := 0) rfl jm_MD_driftLower_n jm_MD_driftLower_f rfl rfl rfl rfl rfl rfl rfl (Nat.zero_le _) (Nat.zero_le _) ?_
        refine ev_MD_driftLower (b := b) (jz_bankB hB hS1) hb2 ?_
        refine jr_imul rfl ?_
        refine jr_icmp_le rfl (fun c21MDisOff => ?_) (fun c21MDisOff => ?_)
        · refine jr_ic rfl ?_
          refine jr_zret rfl rfl rfl (Nat.zero_le _) (Nat.zero_le _) ?_
          refine jr_if_eq rfl (fun _ => ?_) (fun z => absurd (by decide) z)
          refine jr_iinc5 rfl rfl ?_
          refine jr_goto rfl ?_
          rw [jn_S]
          refine lp_MD_skew S1 (k + 1) _ hB hS1 hmo hA1 hw1 (fun q hq => by rw [h99]; exact hS9 q hq) hhi1 (by omega) (by omega) hk2 (fun S' hS' => ?_)
          have := kk S' hS'
          rw [hn, jw_sks, if_pos (show jw_abs (jw_dU (jC hm b) ((jw_gb (jC hm b) (jz_nd hm b) (jw_rl (jw_h hm a) b z) a) 1) ((jw_gb (jC hm b) (jz_nd hm b) (jw_rl (jw_h hm a) b z) a) 0)) ≤ y * jw_dL (jC hm b) from (by unfold jw_abs; rw [if_neg (show ¬ 0 ≤ jw_dU (jC hm b) ((jw_gb (jC hm b) (jz_nd hm b) (jw_rl (jw_h hm a) b z) a) 1) ((jw_gb (jC hm b) (jz_nd hm b) (jw_rl (jw_h hm a) b z) a) 0) from c12MDisOff)]; exact c21MDisOff))] at this
          exact this
        · refine jr_ic rfl ?_
          refine jr_goto rfl ?_
          refine jr_zret rfl rfl rfl (Nat.zero_le _) (Nat.zero_le _) ?_
          refine jr_if_eq rfl (fun z => absurd z (by decide)) (fun _ => ?_)
          refine jr_iload rfl rfl ?_
          refine jr_ist4 rfl rfl ?_
          refine jr_iinc5 rfl rfl ?_
          refine jr_goto rfl ?_
          have hoff : ¬ jw_abs (jw_dU (jC hm b) ((jw_gb (jC hm b) (jz_nd hm b) (jw_rl (jw_h hm a) b z) a) 1) ((jw_gb (jC hm b) (jz_nd hm b) (jw_rl (jw_h hm a) b z) a) 0)) ≤ y * jw_dL (jC hm b) := by unfold jw_abs; rw [if_neg (show ¬ 0 ≤ jw_dU (jC hm b) ((jw_gb (jC hm b) (jz_nd hm b) (jw_rl (jw_h hm a) b z) a) 1) ((jw_gb (jC hm b) (jz_nd hm b) (jw_rl (jw_h hm a) b z) a) 0) from c12MDisOff)]; exact c21MDisOff
          rw [jn_S]
          refine jr_iload rfl rfl ?_
          refine jr_iload rfl rfl ?_
          refine jr_icmp_gt rfl (fun c23 => ?_) (fun c23 => ?_)
          · refine jr_aload rfl rfl ?_
            refine jr_cv0 (mc' := 0) (ms' := 0) rfl jm_MD_bringHead_n jm_MD_bringHead_f rfl rfl rfl rfl rfl rfl rfl (Nat.zero_le _) (Nat.zero_le _) ?_
            refine eS_bringHead (h := hm) (fun q hq => by rw [h99]; exact hS9 q hq) (fun q hq => hhi1 q hq) ?_
            refine jr_iload rfl rfl ?_
            refine jr_iret rfl rfl (Nat.zero_le _) (Nat.zero_le _) ?_
            have := kk S1 hS1
            rw [hn, jw_sks, if_neg hoff] at this
            exact this
          · refine jr_iload rfl rfl ?_
            refine jr_if_ge rfl (fun _ => ?_) (fun z => absurd (nI_pos' (by omega)) z)
            refine jr_aload rfl rfl ?_
            refine jr_cv0 (mc' := 0) (ms' := 0) rfl jm_MD_bringHead_n jm_MD_bringHead_f rfl rfl rfl rfl rfl rfl rfl (Nat.zero_le _) (Nat.zero_le _) ?_
            refine eS_bringHead (h := hm) (fun q hq => by rw [h99]; exact hS9 q hq) (fun q hq => hhi1 q hq) ?_
            refine jr_iload rfl rfl ?_
            refine jr_iret rfl rfl (Nat.zero_le _) (Nat.zero_le _) ?_
            have := kk S1 hS1
            rw [hn, jw_sks, if_neg hoff] at this
            exact this
termination_by n + 1 - k
decreasing_by all_goals omega

