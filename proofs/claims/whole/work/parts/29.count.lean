def jw_lm (M : Nat → Int32) : Nat → Nat → Nat
  | 0, l => l
  | n + 1, l => if M l = 0 then jw_lm M n (l + 1) else l
def jw_tally (V : Nat → Nat) (w : Nat → Int32) : Nat → Nat → Int32
  | 0 => fun _ => 0
  | p + 1 => upd (jw_tally V w p) (V p) (jw_tally V w p (V p) + w p)
def jw_wsum (w : Nat → Int32) : Nat → Int32
  | 0 => 0
  | p + 1 => jw_wsum w p + w p
def jw_wlen (V : Nat → Nat) (w : Nat → Int32) : Nat → Int32
  | 0 => 0
  | p + 1 => jw_wlen V w p + w p * nI (V p)
def jw_pick (way all : Int32) (T : Nat → Int32) : Nat → Nat → Int32 → Nat → Nat
  | 0, _, _, best => best
  | n + 1, l, u, best => if way = 1 ∧ ¬ 2 * (u + T l) < all then l else jw_pick way all T n (l + 1) (u + T l) (if T l ≤ T best then best else l)
def jw_count (M : Nat → Int32) (way : Int32) (np : Nat) (V : Nat → Nat) (w : Nat → Int32) : Int32 :=
  if jw_wsum w np = 0 then nI (jw_lm M 32 0) else if way = 2 then jw_wlen V w np / jw_wsum w np else nI (jw_pick way (jw_wsum w np) (jw_tally V w np) 32 0 0 0)
theorem jw_lm_congr {M M' : Nat → Int32} : ∀ {n l : Nat}, (∀ j, l ≤ j → j < l + n → M j = M' j) → jw_lm M n l = jw_lm M' n l
  | 0, _, _ => rfl
  | n + 1, l, h => by
    rw [jw_lm, jw_lm, h l (Nat.le_refl _) (by omega), jw_lm_congr (n := n) (l := l + 1) (fun j h1 h2 => h j (by omega) (by omega))]
set_option maxHeartbeats 4000000 in
set_option maxRecDepth 100000 in
theorem lp_MD_leastMay {d n0 : Nat} {Q : Option jx_V → jx_H → Prop} {h : jx_H} {M : Nat → Int32} (l : Nat) (hl : l ≤ 32) (hM : ∀ j, j < 32 → jh_I h 100 0 j = M j) (hex : ∃ j, l ≤ j ∧ j < 32 ∧ ¬ M j = 0) (hQ : Q (some (jv_i (nI (jw_lm M (32 - l) l)))) h) : jx_W (jm_MD_leastMay, d, 0, 0, false, 1, n0) Q 0 0 2 [some (jv_r 11 0), some (jv_i (nI l))] [] h   := by
  have hl1 : l < 32 := by obtain ⟨j, h1, h2, -⟩ := hex; omega
  have hn : 32 - l = (32 - (l + 1)) + 1 := by omega
  have hMl := hM l hl1
  have hl1 : l < 32 := by obtain ⟨j, h1, h2, -⟩ := hex; omega
  have hn : 32 - l = (32 - (l + 1)) + 1 := by omega
  have hMl := hM l hl1
  refine jr_aload rfl rfl ?_
  refine jr_getR rfl rfl rfl rfl (Or.inl rfl) ?_
  refine jr_iload rfl rfl ?_
  refine jr_zald (len := 32) rfl rfl rfl (by omega) ?_
  refine jr_if_ne rfl (fun c6 => ?_) (fun c6 => ?_)
  · refine jr_iload rfl rfl ?_
    refine jr_iret rfl rfl (Nat.zero_le _) (Nat.zero_le _) ?_
    rw [hn, jw_lm, if_neg (show ¬ M l = 0 from fun z => c6 (hMl.trans z))] at hQ
    exact hQ
  · refine jr_iinc1 rfl rfl ?_
    refine jr_goto rfl ?_
    rw [jn_S]
    have c6' : M l = 0 := hMl.symm.trans c6
    refine lp_MD_leastMay (l + 1) (by omega) hM ?_ ?_
    · obtain ⟨j, h1, h2, h3⟩ := hex
      refine ⟨j, ?_, h2, h3⟩
      rcases Nat.eq_or_lt_of_le h1 with e | e
      · rw [e] at c6'; exact absurd c6' h3
      · omega
    · rw [hn, jw_lm, if_pos c6'] at hQ; exact hQ
termination_by 32 - l
decreasing_by all_goals omega

set_option maxHeartbeats 4000000 in
set_option maxRecDepth 100000 in
theorem ev_MD_leastMay {d : Nat} {h : jx_H} {Q : Option jx_V → jx_H → Prop} {M : Nat → Int32} (hM : ∀ j, j < 32 → jh_I h 100 0 j = M j) (hex : ∃ j, j < 32 ∧ ¬ M j = 0) (hQ : Q (some (jv_i (nI (jw_lm M 32 0)))) h) : jx_Ev jm_MD_leastMay (d) 0 0 false 1 [jv_r 11 0] h Q := by
  show jx_W (jm_MD_leastMay, d, 0, 0, false, 1, _) Q 0 0 0 [some (jv_r 11 0), none] [] _
  refine jr_ic rfl ?_
  refine jr_ist1 rfl rfl ?_
  obtain ⟨j, h1, h2⟩ := hex
  exact lp_MD_leastMay 0 (by omega) hM ⟨j, Nat.zero_le _, h1, h2⟩ hQ

set_option maxHeartbeats 4000000 in
set_option maxRecDepth 100000 in
theorem lp_MD_cb3 {d n0 : Nat} {Q : Option jx_V → jx_H → Prop} {h : jx_H} {b : Nat} {S : Nat → Nat → Int32} {T : Nat → Int32} {x z : Int32} (l : Nat) (u : Int32) (best : Nat) (hw : jz_W h b) (hS : jz_S h S) (hT : ∀ j, j < 32 → S 102 j = T j) (hl : l ≤ 32) (hb32 : best < 32) (hQ : Q (some (jv_i (nI (jw_pick (jC h b 15 0) x T (32 - l) l u best)))) (jS h S)) : jx_W (jm_MD_countedBy, d, 0, 0, false, 1, n0) Q 0 0 85 [some (jv_r 11 0), some (jv_i x), some (jv_i z), some (jv_i (nI best)), some (jv_i u), some (jv_i (nI l))] [] (jS h S) := by
  have hb2 := hw.2.1
  refine jr_iload rfl rfl ?_
  refine jr_ic rfl ?_
  refine jr_icmp_gt rfl (fun c87 => ?_) (fun c87 => ?_)
  · refine jr_iload rfl rfl ?_
    refine jr_iret rfl rfl (Nat.zero_le _) (Nat.zero_le _) ?_
    have hx1 : 31 < l := jn_lt (show nI 31 < nI l from c87) (by omega) (by omega)
    rw [show 32 - l = 0 by omega] at hQ
    exact hQ
  · have hl1 : l ≤ 31 := jn_nlt (show ¬ nI 31 < nI l from c87) (by omega) (by omega)
    have hn : 32 - l = (32 - (l + 1)) + 1 := by omega
    refine jr_iload rfl rfl ?_
    refine jr_aload rfl rfl ?_
    refine jr_getR rfl rfl rfl rfl (Or.inl rfl) ?_
    refine jr_iload rfl rfl ?_
    refine jr_iald (len := 32) rfl rfl rfl (by omega) ?_
    rw [show jh_I (jS h S) 102 0 l = T l from hT l (by omega)]
    refine jr_iadd rfl ?_
    refine jr_ist4 rfl rfl ?_
    refine jr_aload rfl rfl ?_
    refine jr_getR rfl rfl rfl rfl (Or.inl rfl) ?_
    refine jr_aload rfl rfl ?_
    refine jr_getI rfl rfl ?_
    refine jr_iald (len := 2) rfl rfl (jz_bank hw hS) (by omega) ?_
    refine jr_ic rfl ?_
    refine jr_icmp_ne rfl (fun c101 => ?_) (fun c101 => ?_)
    · refine jr_aload rfl rfl ?_
      refine jr_getR rfl rfl rfl rfl (Or.inl rfl) ?_
      refine jr_iload rfl rfl ?_
      refine jr_iald (len := 32) rfl rfl rfl (by omega) ?_
      rw [show jh_I (jS h S) 102 0 l = T l from hT l (by omega)]
      refine jr_aload rfl rfl ?_
      refine jr_getR rfl rfl rfl rfl (Or.inl rfl) ?_
      refine jr_iload rfl rfl ?_
      refine jr_iald (len := 32) rfl rfl rfl (by omega) ?_
      rw [show jh_I (jS h S) 102 0 best = T best from hT best (by omega)]
      refine jr_icmp_le rfl (fun c117 => ?_) (fun c117 => ?_)
      · refine jr_iinc5 rfl rfl ?_
        refine jr_goto rfl ?_
        rw [jn_S]
        refine lp_MD_cb3 (l + 1) _ _ hw hS hT (by omega) (by omega) ?_
        rw [hn, jw_pick, if_neg (show ¬ (jC h b 15 0 = 1 ∧ ¬ 2 * (u + T l) < x) from fun z => c101 z.1), if_pos c117] at hQ
        exact hQ
      · refine jr_iload rfl rfl ?_
        refine jr_ist3 rfl rfl ?_
        refine jr_iinc5 rfl rfl ?_
        refine jr_goto rfl ?_
        rw [jn_S]
        refine lp_MD_cb3 (l + 1) _ _ hw hS hT (by omega) (by omega) ?_
        rw [hn, jw_pick, if_neg (show ¬ (jC h b 15 0 = 1 ∧ ¬ 2 * (u + T l) < x) from fun z => c101 z.1), if_neg c117] at hQ
        exact hQ
    · refine jr_ic rfl ?_
      refine jr_iload rfl rfl ?_
      refine jr_imul rfl ?_
      refine jr_iload rfl rfl ?_
      refine jr_icmp_lt rfl (fun c106 => ?_) (fun c106 => ?_)
      · refine jr_aload rfl rfl ?_
        refine jr_getR rfl rfl rfl rfl (Or.inl rfl) ?_
        refine jr_iload rfl rfl ?_
        refine jr_iald (len := 32) rfl rfl rfl (by omega) ?_
        rw [show jh_I (jS h S) 102 0 l = T l from hT l (by omega)]
        refine jr_aload rfl rfl ?_
        refine jr_getR rfl rfl rfl rfl (Or.inl rfl) ?_
        refine jr_iload rfl rfl ?_
        refine jr_iald (len := 32) rfl rfl rfl (by omega) ?_
        rw [show jh_I (jS h S) 102 0 best = T best from hT best (by omega)]
        refine jr_icmp_le rfl (fun c117 => ?_) (fun c117 => ?_)
        · refine jr_iinc5 rfl rfl ?_
          refine jr_goto rfl ?_
          rw [jn_S]
          refine lp_MD_cb3 (l + 1) _ _ hw hS hT (by omega) (by omega) ?_
          rw [hn, jw_pick, if_neg (show ¬ (jC h b 15 0 = 1 ∧ ¬ 2 * (u + T l) < x) from fun z => z.2 c106), if_pos c117] at hQ
          exact hQ
        · refine jr_iload rfl rfl ?_
          refine jr_ist3 rfl rfl ?_
          refine jr_iinc5 rfl rfl ?_
          refine jr_goto rfl ?_
          rw [jn_S]
          refine lp_MD_cb3 (l + 1) _ _ hw hS hT (by omega) (by omega) ?_
          rw [hn, jw_pick, if_neg (show ¬ (jC h b 15 0 = 1 ∧ ¬ 2 * (u + T l) < x) from fun z => z.2 c106), if_neg c117] at hQ
          exact hQ
      · refine jr_iload rfl rfl ?_
        refine jr_iret rfl rfl (Nat.zero_le _) (Nat.zero_le _) ?_
        rw [hn, jw_pick, if_pos (show jC h b 15 0 = 1 ∧ ¬ 2 * (u + T l) < x from ⟨c101, c106⟩)] at hQ
        exact hQ
termination_by 32 - l
decreasing_by all_goals omega

set_option maxHeartbeats 4000000 in
set_option maxRecDepth 100000 in
theorem lp_MD_cb2 {d n0 : Nat} {Q : Option jx_V → jx_H → Prop} {h : jx_H} {b : Nat} {S0 : Nat → Nat → Int32} {M : Nat → Int32} {V : Nat → Nat} (S : Nat → Nat → Int32) (p : Nat) (hw : jz_W h b) (hS : jz_S h S) (hV : ∀ p, p < jz_np h b → S 101 p = nI (V p) ∧ V p < 32) (hM : ∀ j, j < 32 → S 100 j = M j) (hex : ∃ j, j < 32 ∧ ¬ M j = 0) (hp : p ≤ jz_np h b) (hT : ∀ j, j < 32 → S 102 j = jw_tally V (fun p => jA h (7 + p)) p j) (hfr : ∀ a, a ≠ 102 → S a = S0 a) (k : ∀ S' : Nat → Nat → Int32, jz_S h S' → (∀ a, a ≠ 102 → S' a = S0 a) → Q (some (jv_i (jw_count M (jC h b 15 0) (jz_np h b) V (fun p => jA h (7 + p))))) (jS h S'))  : jx_W (jm_MD_countedBy, d + 1, 0, 0, false, 1, n0) Q 0 0 18 [some (jv_r 11 0), some (jv_i (jw_wsum (fun p => jA h (7 + p)) p)), some (jv_i (jw_wlen V (fun p => jA h (7 + p)) p)), some (jv_i (nI p)), none, none] [] (jS h S) := by
  have hb2 := hw.2.1
  have hnp := hw.2.2.1.2.1
  have hnp5 := hnp.2
  refine jr_iload rfl rfl ?_
  refine jr_aload rfl rfl ?_
  refine jr_cv0 (mc' := 0) (ms' := 0) rfl jm_MD_personMany_n jm_MD_personMany_f rfl rfl rfl rfl rfl rfl rfl (Nat.zero_le _) (Nat.zero_le _) ?_
  show jx_W (jm_MD_personMany, _, _, _, _, _, _) _ 0 0 0 [some _] [] _
  refine jr_aload rfl rfl ?_
  refine jr_getR rfl rfl rfl rfl (Or.inl rfl) ?_
  refine jr_aload rfl rfl ?_
  refine jr_getI rfl rfl ?_
  refine jr_iald (len := 2) rfl rfl (jz_bank hw hS) (by omega) ?_
  refine jr_iret rfl rfl (Nat.zero_le _) (Nat.zero_le _) ?_
  rw [show jh_I (jS h S) 67 0 b = nI (jz_np h b) from hnp.1]
  refine jr_icmp_ge rfl (fun c21 => ?_) (fun c21 => ?_)
  · have hp2 : p = jz_np h b := by have := jn_le (show nI (jz_np h b) ≤ nI p from c21) (by omega) (by omega); omega
    subst hp2
    refine jr_iload rfl rfl ?_
    refine jr_if_ne rfl (fun c64 => ?_) (fun c64 => ?_)
    · refine jr_aload rfl rfl ?_
      refine jr_getR rfl rfl rfl rfl (Or.inl rfl) ?_
      refine jr_aload rfl rfl ?_
      refine jr_getI rfl rfl ?_
      refine jr_iald (len := 2) rfl rfl (jz_bank hw hS) (by omega) ?_
      refine jr_ic rfl ?_
      refine jr_icmp_ne rfl (fun c74 => ?_) (fun c74 => ?_)
      · refine jr_ic rfl ?_
        refine jr_ist3 rfl rfl ?_
        refine jr_ic rfl ?_
        refine jr_ist4 rfl rfl ?_
        refine jr_ic rfl ?_
        refine jr_ist5 rfl rfl ?_
        refine lp_MD_cb3 0 0 0 hw hS hT (by omega) (by omega) ?_
        have := k S hS hfr
        rw [jw_count, if_neg c64, if_neg (show ¬ jC h b 15 0 = 2 from c74)] at this
        exact this
      · refine jr_iload rfl rfl ?_
        refine jr_iload rfl rfl ?_
        refine jr_idiv rfl c64 ?_
        refine jr_iret rfl rfl (Nat.zero_le _) (Nat.zero_le _) ?_
        have := k S hS hfr
        rw [jw_count, if_neg c64, if_pos (show jC h b 15 0 = 2 from c74)] at this
        exact this
    · refine jr_aload rfl rfl ?_
      refine jr_cv0 (mc' := 0) (ms' := 0) rfl jm_MD_leastMay_n jm_MD_leastMay_f rfl rfl rfl rfl rfl rfl rfl (Nat.zero_le _) (Nat.zero_le _) ?_
      refine ev_MD_leastMay (M := M) hM hex ?_
      refine jr_iret rfl rfl (Nat.zero_le _) (Nat.zero_le _) ?_
      have := k S hS hfr
      rw [jw_count, if_pos c64] at this
      exact this
  · have hp1 : p < jz_np h b := jn_nle (show ¬ nI (jz_np h b) ≤ nI p from c21) (by omega) (by omega)
    obtain ⟨hv1, hv2⟩ := hV p hp1
    refine jr_aload rfl rfl ?_
    refine jr_getR rfl rfl rfl rfl (Or.inl rfl) ?_
    refine jr_aload rfl rfl ?_
    refine jr_getR rfl rfl rfl rfl (Or.inl rfl) ?_
    refine jr_iload rfl rfl ?_
    refine jr_iald (len := 5) rfl rfl rfl (by omega) ?_
    refine jr_dup2 rfl ?_
    refine jr_iald (len := 32) rfl rfl hv1 hv2 ?_
    refine jr_aload rfl rfl ?_
    refine jr_getR rfl rfl rfl rfl (Or.inl rfl) ?_
    refine jr_ic rfl ?_
    refine jr_iload rfl rfl ?_
    refine jr_iadd rfl ?_
    refine jr_iald (len := 337) rfl rfl (jn_add (show _ = nI 7 from rfl) rfl) (by omega) ?_
    refine jr_iadd rfl ?_
    refine jr_iast (len := 32) rfl rfl hv1 hv2 ?_
    refine jr_iload rfl rfl ?_
    refine jr_aload rfl rfl ?_
    refine jr_getR rfl rfl rfl rfl (Or.inl rfl) ?_
    refine jr_ic rfl ?_
    refine jr_iload rfl rfl ?_
    refine jr_iadd rfl ?_
    refine jr_iald (len := 337) rfl rfl (jn_add (show _ = nI 7 from rfl) rfl) (by omega) ?_
    refine jr_iadd rfl ?_
    refine jr_ist1 rfl rfl ?_
    refine jr_iload rfl rfl ?_
    refine jr_aload rfl rfl ?_
    refine jr_getR rfl rfl rfl rfl (Or.inl rfl) ?_
    refine jr_ic rfl ?_
    refine jr_iload rfl rfl ?_
    refine jr_iadd rfl ?_
    refine jr_iald (len := 337) rfl rfl (jn_add (show _ = nI 7 from rfl) rfl) (by omega) ?_
    refine jr_aload rfl rfl ?_
    refine jr_getR rfl rfl rfl rfl (Or.inl rfl) ?_
    refine jr_iload rfl rfl ?_
    refine jr_iald (len := 5) rfl rfl rfl (by omega) ?_
    refine jr_imul rfl ?_
    refine jr_iadd rfl ?_
    refine jr_ist2 rfl rfl ?_
    refine jr_iinc3 rfl rfl ?_
    refine jr_goto rfl ?_
    simp only [jS_102, jS_r102]
    rw [jn_S]
    have hTp := hT (V p) hv2
    rw [show jh_I (jS h (fun k => if k = 102 then upd (S 102) (V p) (S 102 (V p) + jh_I (jS h S) 98 0 (7 + p)) else S k)) 101 0 p = nI (V p) from hv1]
    refine lp_MD_cb2 _ (p + 1) hw hS hV hM hex (by omega) (fun j hj => ?_) (fun a ha => (if_neg ha).trans (hfr a ha)) k
    show upd (S 102) (V p) (S 102 (V p) + jA h (7 + p)) j = upd (jw_tally V (fun p => jA h (7 + p)) p) (V p) (jw_tally V (fun p => jA h (7 + p)) p (V p) + jA h (7 + p)) j
    rw [hTp]
    by_cases e : j = V p
    · rw [e, jg_us, jg_us]
    · rw [jg_un e, jg_un e, hT j hj]
termination_by jz_np h b - p
decreasing_by all_goals omega

set_option maxHeartbeats 4000000 in
set_option maxRecDepth 100000 in
theorem lp_MD_cb1 {d n0 : Nat} {Q : Option jx_V → jx_H → Prop} {h : jx_H} {b : Nat} {S0 : Nat → Nat → Int32} {M : Nat → Int32} {V : Nat → Nat} (S : Nat → Nat → Int32) (l : Nat) (hw : jz_W h b) (hS : jz_S h S) (hV : ∀ p, p < jz_np h b → S 101 p = nI (V p) ∧ V p < 32) (hM : ∀ j, j < 32 → S 100 j = M j) (hex : ∃ j, j < 32 ∧ ¬ M j = 0) (hl : l ≤ 32) (hT : ∀ j, j < l → S 102 j = 0) (hfr : ∀ a, a ≠ 102 → S a = S0 a) (k : ∀ S' : Nat → Nat → Int32, jz_S h S' → (∀ a, a ≠ 102 → S' a = S0 a) → Q (some (jv_i (jw_count M (jC h b 15 0) (jz_np h b) V (fun p => jA h (7 + p))))) (jS h S'))  : jx_W (jm_MD_countedBy, d + 1, 0, 0, false, 1, n0) Q 0 0 6 [some (jv_r 11 0), some (jv_i 0), some (jv_i 0), some (jv_i (nI l)), none, none] [] (jS h S) := by
  refine jr_iload rfl rfl ?_
  refine jr_ic rfl ?_
  refine jr_icmp_gt rfl (fun c8 => ?_) (fun c8 => ?_)
  · refine jr_ic rfl ?_
    refine jr_ist3 rfl rfl ?_
    have hx1 : 31 < l := jn_lt (show nI 31 < nI l from c8) (by omega) (by omega)
    exact lp_MD_cb2 S 0 hw hS hV hM hex (Nat.zero_le _) (fun j hj => hT j (by omega)) hfr k
  · have hl1 : l ≤ 31 := jn_nlt (show ¬ nI 31 < nI l from c8) (by omega) (by omega)
    refine jr_aload rfl rfl ?_
    refine jr_getR rfl rfl rfl rfl (Or.inl rfl) ?_
    refine jr_iload rfl rfl ?_
    refine jr_ic rfl ?_
    refine jr_iast (len := 32) rfl rfl rfl (by omega) ?_
    refine jr_iinc3 rfl rfl ?_
    refine jr_goto rfl ?_
    simp only [jS_102, jS_r102]
    rw [jn_S]
    refine lp_MD_cb1 _ (l + 1) hw hS hV hM hex (by omega) (fun j hj => ?_) (fun a ha => (if_neg ha).trans (hfr a ha)) k
    show upd (S 102) l 0 j = 0
    by_cases e : j = l
    · rw [e, jg_us]
    · rw [jg_un e, hT j (by omega)]
termination_by 32 - l
decreasing_by all_goals omega

set_option maxHeartbeats 4000000 in
set_option maxRecDepth 100000 in
theorem eS_countedBy {d : Nat} {h : jx_H} {Q : Option jx_V → jx_H → Prop} {b : Nat} {S : Nat → Nat → Int32} {M : Nat → Int32} {V : Nat → Nat} (hw : jz_W h b) (hS : jz_S h S) (hV : ∀ p, p < jz_np h b → S 101 p = nI (V p) ∧ V p < 32) (hM : ∀ j, j < 32 → S 100 j = M j) (hex : ∃ j, j < 32 ∧ ¬ M j = 0) (k : ∀ S' : Nat → Nat → Int32, jz_S h S' → (∀ a, a ≠ 102 → S' a = S a) → Q (some (jv_i (jw_count M (jC h b 15 0) (jz_np h b) V (fun p => jA h (7 + p))))) (jS h S'))  : jx_Ev jm_MD_countedBy (d + 1) 0 0 false 1 [jv_r 11 0] (jS h S) Q := by
  show jx_W (jm_MD_countedBy, d + 1, 0, 0, false, 1, _) Q 0 0 0 [some (jv_r 11 0), none, none, none, none, none] [] _
  refine jr_ic rfl ?_
  refine jr_ist1 rfl rfl ?_
  refine jr_ic rfl ?_
  refine jr_ist2 rfl rfl ?_
  refine jr_ic rfl ?_
  refine jr_ist3 rfl rfl ?_
  exact lp_MD_cb1 S 0 hw hS hV hM hex (Nat.zero_le _) (fun j hj => absurd hj (by omega)) (fun _ _ => rfl) k

abbrev jw_V (h : jx_H) (b : Nat) : Nat → Nat := fun p => (jw_voteb h b p).toNatClampNeg
theorem jw_V_eq {h : jx_H} {b p : Nat} (hw : jz_W h b) (hm : ¬ jC h b 0 0 = 0) : jw_voteb h b p = nI (jw_V h b p) ∧ jw_V h b p < 32 ∧ ¬ jw_mayb h b (jw_V h b p) = 0 := by
  obtain ⟨v, h1, h2, h3⟩ := jw_voteb_in (p := p) hw hm
  have e : jw_V h b p = v := jn_1 h1 (by omega)
  rw [e]
  exact ⟨h1, h2, h3⟩
set_option maxHeartbeats 4000000 in
set_option maxRecDepth 100000 in
theorem lp_MD_lv {d n0 : Nat} {Q : Option jx_V → jx_H → Prop} {h : jx_H} {b : Nat} {S0 : Nat → Nat → Int32} (S : Nat → Nat → Int32) (p : Nat) (hw : jz_W h b) (hS : jz_S h S) (hmo : ¬ jC h b 0 0 = 0) (hp : p ≤ jz_np h b) (hM : ∀ j, j < 32 → S 100 j = jw_mayb h b j) (hV : ∀ q, q < p → S 101 q = nI (jw_V h b q)) (hfr : ∀ a, a ≠ 11 → a ≠ 97 → a ≠ 100 → a ≠ 101 → S a = S0 a) (k : ∀ S' : Nat → Nat → Int32, jz_S h S' → (∀ a, a ≠ 11 → a ≠ 97 → a ≠ 100 → a ≠ 101 → S' a = S0 a) → (∀ j, j < 32 → S' 100 j = jw_mayb h b j) → (∀ p, p < jz_np h b → S' 101 p = nI (jw_V h b p)) → Q none (jS h S'))  : jx_W (jm_MD_layVotes, d + 6, 0, 0, false, 1, n0) Q 0 0 4 [some (jv_r 11 0), some (jv_i (nI p))] [] (jS h S) := by
  have hb2 := hw.2.1
  have hnp := hw.2.2.1.2.1
  have hnp5 := hnp.2
  refine jr_iload rfl rfl ?_
  refine jr_aload rfl rfl ?_
  refine jr_cv0 (mc' := 0) (ms' := 0) rfl jm_MD_personMany_n jm_MD_personMany_f rfl rfl rfl rfl rfl rfl rfl (Nat.zero_le _) (Nat.zero_le _) ?_
  show jx_W (jm_MD_personMany, _, _, _, _, _, _) _ 0 0 0 [some _] [] _
  refine jr_aload rfl rfl ?_
  refine jr_getR rfl rfl rfl rfl (Or.inl rfl) ?_
  refine jr_aload rfl rfl ?_
  refine jr_getI rfl rfl ?_
  refine jr_iald (len := 2) rfl rfl (jz_bank hw hS) (by omega) ?_
  refine jr_iret rfl rfl (Nat.zero_le _) (Nat.zero_le _) ?_
  rw [show jh_I (jS h S) 67 0 b = nI (jz_np h b) from hnp.1]
  refine jr_icmp_ge rfl (fun c7 => ?_) (fun c7 => ?_)
  · refine jr_vret rfl rfl (Nat.zero_le _) (Nat.zero_le _) ?_
    have hp2 : p = jz_np h b := by have := jn_le (show nI (jz_np h b) ≤ nI p from c7) (by omega) (by omega); omega
    subst hp2
    exact k S hS hfr hM hV
  · have hp1 : p < jz_np h b := jn_nle (show ¬ nI (jz_np h b) ≤ nI p from c7) (by omega) (by omega)
    refine jr_aload rfl rfl ?_
    refine jr_getR rfl rfl rfl rfl (Or.inl rfl) ?_
    refine jr_iload rfl rfl ?_
    refine jr_aload rfl rfl ?_
    refine jr_iload rfl rfl ?_
    refine jr_cv1 (mc' := 0) (ms' := 0) rfl jm_MD_voteOf_n jm_MD_voteOf_f rfl rfl rfl rfl rfl rfl rfl (Nat.zero_le _) (Nat.zero_le _) ?_
    refine eS_voteOf (b := b) hw hS hmo (by omega) hM (fun S1 hS1 hfr1 => ?_)
    refine jr_iast (len := 5) rfl rfl rfl (by omega) ?_
    refine jr_iinc1 rfl rfl ?_
    refine jr_goto rfl ?_
    simp only [jS_101, jS_r101]
    rw [jn_S]
    refine lp_MD_lv _ (p + 1) hw hS1 hmo (by omega) (fun j hj => ?_) (fun q hq => ?_) (fun a h1 h2 h3 h4 => ?_) k
    · show S1 100 j = _
      rw [hfr1 100 (by decide) (by decide)]; exact hM j hj
    · show upd (S1 101) p (jw_voteb h b p) q = _
      by_cases e : q = p
      · rw [e, jg_us]; exact (jw_V_eq hw hmo).1
      · rw [jg_un e, hfr1 101 (by decide) (by decide)]; exact hV q (by omega)
    · show (if a = 101 then _ else S1 a) = S0 a
      rw [if_neg h4, hfr1 a h1 h2]; exact hfr a h1 h2 h3 h4
termination_by jz_np h b - p
decreasing_by all_goals omega

