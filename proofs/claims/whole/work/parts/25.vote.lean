theorem jg_4 (h : jx_H) (F G F' G' : Nat → Int32) : ju_I (ju_I (ju_I (ju_I h 11 0 F) 97 0 G) 11 0 F') 97 0 G' = ju_I (ju_I h 11 0 F') 97 0 G' := by
  unfold ju_I
  refine congrArg (·, h.2) ?_
  funext a b
  dsimp only
  split
  · rfl
  · split
    · rfl
    · rfl
/-- the first best of n lengths from l on -/
def jw_best (W M : Nat → Int32) : Nat → Nat → Int32 → Int32 → Int32
  | 0, _, best, _ => best
  | n + 1, l, best, most => if M l = 0 then jw_best W M n (l + 1) best most else if best < 0 then jw_best W M n (l + 1) (nI l) (W l) else if most < W l then jw_best W M n (l + 1) (nI l) (W l) else jw_best W M n (l + 1) best most
theorem jw_worth_s (h : jx_H) (F G : Nat → Int32) (b p : Nat) (l : Int32) (nd : Nat) : jw_worth (ju_I (ju_I h 11 0 F) 97 0 G) b p l nd = jw_worth h b p l nd := rfl
set_option maxHeartbeats 4000000 in
set_option maxRecDepth 100000 in
theorem lp_MD_voteOf {d : Nat} {Q : Option jx_V → jx_H → Prop} {b n0 p nd : Nat} {h : jx_H} {F G : Nat → Int32} (l : Nat) (best most : Int32) (hl : l ≤ 32) (hb2 : b < 2) (hp : p < 5) (hdl : ¬ jw_dL (jC h b) = 0) (hmo : ¬ jC h b 0 0 = 0) (hnd : jC h b 2 0 = nI nd) (hn12 : nd ≤ 12) (hgd : ¬ jC h b 18 p = 0 → jw_good h b p) (hbF : F 43 = nI b) (hfr : ∀ f, f < 49 ∨ 53 < f → F f = jh_I h 11 0 f)
  (k : ∀ F G : Nat → Int32, (∀ f, f < 49 ∨ 53 < f → F f = jh_I h 11 0 f) → Q (some (jv_i (jw_best (fun l => jw_worth h b p (nI l) nd) (jh_I h 100 0) (32 - l) l best most))) (ju_I (ju_I h 11 0 F) 97 0 G)) : jx_W (jm_MD_voteOf, d + 5, 0, 0, false, 1, n0) Q 0 0 6 [some (jv_r 11 0), some (jv_i (nI p)), some (jv_i best), some (jv_i most), some (jv_i (nI l)), none] [] (ju_I (ju_I h 11 0 F) 97 0 G) := by
  refine jr_iload rfl rfl ?_
  refine jr_ic rfl ?_
  refine jr_icmp_gt rfl (fun c8 => ?_) (fun c8 => ?_)
  · refine jr_iload rfl rfl ?_
    refine jr_iret rfl rfl (Nat.zero_le _) (Nat.zero_le _) ?_
    have hl1 : 32 - l = 0 := by
      have : nI 31 < nI l := c8
      rw [nI_ltI (by omega) (by omega)] at this
      omega
    have := k F G hfr
    rw [hl1] at this
    exact this
  · have hl1 : l < 32 := by
      have : ¬ nI 31 < nI l := c8
      rw [nI_ltI (by omega) (by omega)] at this
      omega
    have hn : 32 - l = (32 - (l + 1)) + 1 := by omega
    refine jr_aload rfl rfl ?_
    refine jr_getR rfl rfl rfl rfl (Or.inl rfl) ?_
    refine jr_iload rfl rfl ?_
    refine jr_zald (len := 32) rfl rfl rfl (by omega) ?_
    refine jr_if_ne rfl (fun c13 => ?_) (fun c13 => ?_)
    · refine jr_aload rfl rfl ?_
      refine jr_iload rfl rfl ?_
      refine jr_iload rfl rfl ?_
      refine jr_cv2 (mc' := 0) (ms' := 0) rfl jm_MD_worthOf_n jm_MD_worthOf_f rfl rfl rfl rfl rfl rfl rfl (Nat.zero_le _) (Nat.zero_le _) ?_
      refine ev_MD_worthOf (b := b) hbF hb2 hp hdl hmo hnd hn12 hgd (fun F' G' hfr' => ?_)
      refine jr_ist5 rfl rfl ?_
      refine jr_iload rfl rfl ?_
      refine jr_if_lt rfl (fun c21 => ?_) (fun c21 => ?_)
      · refine jr_iload rfl rfl ?_
        refine jr_ist2 rfl rfl ?_
        refine jr_iload rfl rfl ?_
        refine jr_ist3 rfl rfl ?_
        refine jr_iinc4 rfl rfl ?_
        refine jr_goto rfl ?_
        rw [jg_4, jn_S, jw_worth_s]
        refine jr_drop 5 (lp_MD_voteOf (F := _) (G := _) (l + 1) _ _ (by omega) hb2 hp hdl hmo hnd hn12 hgd ((hfr' 43 (by decide)).trans hbF) (fun f hf => (hfr' f hf).trans (hfr f hf)) (fun F G hf => ?_))
        have := k F G hf
        rw [hn, jw_best] at this
        rw [if_neg (show ¬ jh_I h 100 0 l = 0 from c13), if_pos c21] at this
        exact this
      · refine jr_iload rfl rfl ?_
        refine jr_iload rfl rfl ?_
        refine jr_icmp_gt rfl (fun c24 => ?_) (fun c24 => ?_)
        · refine jr_iload rfl rfl ?_
          refine jr_ist2 rfl rfl ?_
          refine jr_iload rfl rfl ?_
          refine jr_ist3 rfl rfl ?_
          refine jr_iinc4 rfl rfl ?_
          refine jr_goto rfl ?_
          rw [jg_4, jn_S, jw_worth_s]
          refine jr_drop 5 (lp_MD_voteOf (F := _) (G := _) (l + 1) _ _ (by omega) hb2 hp hdl hmo hnd hn12 hgd ((hfr' 43 (by decide)).trans hbF) (fun f hf => (hfr' f hf).trans (hfr f hf)) (fun F G hf => ?_))
          have := k F G hf
          rw [hn, jw_best] at this
          rw [if_neg (show ¬ jh_I h 100 0 l = 0 from c13), if_neg c21, if_pos (show most < jw_worth h b p (nI l) nd from c24)] at this
          exact this
        · refine jr_goto rfl ?_
          refine jr_iinc4 rfl rfl ?_
          refine jr_goto rfl ?_
          rw [jg_4, jn_S, jw_worth_s]
          refine jr_drop 5 (lp_MD_voteOf (F := _) (G := _) (l + 1) _ _ (by omega) hb2 hp hdl hmo hnd hn12 hgd ((hfr' 43 (by decide)).trans hbF) (fun f hf => (hfr' f hf).trans (hfr f hf)) (fun F G hf => ?_))
          have := k F G hf
          rw [hn, jw_best] at this
          rw [if_neg (show ¬ jh_I h 100 0 l = 0 from c13), if_neg c21, if_neg (show ¬ most < jw_worth h b p (nI l) nd from c24)] at this
          exact this
    · refine jr_goto rfl ?_
      refine jr_iinc4 rfl rfl ?_
      refine jr_goto rfl ?_
      rw [jn_S]
      refine lp_MD_voteOf (F := F) (G := G) (l + 1) _ _ (by omega) hb2 hp hdl hmo hnd hn12 hgd hbF hfr (fun F G hf => ?_)
      have := k F G hf
      rw [hn, jw_best] at this
      rw [if_pos (show jh_I h 100 0 l = 0 from c13)] at this
      exact this
termination_by 32 - l
decreasing_by all_goals omega

def jw_vote (h : jx_H) (b p nd : Nat) : Int32 := jw_best (fun l => jw_worth h b p (nI l) nd) (jh_I h 100 0) 32 0 (-1) 0
set_option maxHeartbeats 4000000 in
set_option maxRecDepth 100000 in
theorem ev_MD_voteOf {d : Nat} {h : jx_H} {Q : Option jx_V → jx_H → Prop} {b p nd : Nat} (hb : jh_I h 11 0 43 = nI b) (hb2 : b < 2) (hp : p < 5) (hdl : ¬ jw_dL (jC h b) = 0) (hmo : ¬ jC h b 0 0 = 0) (hnd : jC h b 2 0 = nI nd) (hn12 : nd ≤ 12) (hgd : ¬ jC h b 18 p = 0 → jw_good h b p) 
  (k : ∀ F G : Nat → Int32, (∀ f, f < 49 ∨ 53 < f → F f = jh_I h 11 0 f) → Q (some (jv_i (jw_vote h b p nd))) (ju_I (ju_I h 11 0 F) 97 0 G)) : jx_Ev jm_MD_voteOf (d + 5) 0 0 false 1 [jv_r 11 0, jv_i (nI p)] h Q := by
  show jx_W (jm_MD_voteOf, d + 5, 0, 0, false, 1, jh_n h) Q 0 0 0 [some (jv_r 11 0), some (jv_i (nI p)), none, none, none, none] [] h
  refine jr_ic rfl ?_
  refine jr_ist2 rfl rfl ?_
  refine jr_ic rfl ?_
  refine jr_ist3 rfl rfl ?_
  refine jr_ic rfl ?_
  refine jr_ist4 rfl rfl ?_
  have e := lp_MD_voteOf (n0 := jh_n h) (d := d) (h := h) (F := jh_I h 11 0) (G := jh_I h 97 0) 0 (-1) 0 (by omega) hb2 hp hdl hmo hnd hn12 hgd hb (fun _ _ => rfl) k
  rw [jg_self, jg_self] at e
  exact e

