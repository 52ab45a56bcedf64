theorem jw_some_s {M : Nat → Int32} {n : Nat} : jw_some M (n + 1) = if jw_some M n = 0 then (if M n = 0 then 0 else 1) else 1 := rfl
set_option maxHeartbeats 4000000 in
set_option maxRecDepth 100000 in
theorem lp_MD_layMay {d : Nat} {Q : Option jx_V → jx_H → Prop} {b n0 f t : Nat} {h : jx_H} {S S0 : Nat → Nat → Int32} {x : Int32} (l : Nat) (hb2 : b < 2) (hdl : ¬ jw_dL (jC h b) = 0) (hmo : ¬ jC h b 0 0 = 0) (hgl : ¬ jC h b 18 5 = 0 → jw_good h b 5) (hft : t ≤ 31) (hl : l ≤ 32) (hbS : S 11 43 = nI b) (hfr : ∀ f, f < 49 ∨ 53 < f → S 11 f = jh_I h 11 0 f) (hf0 : ∀ a, a ≠ 11 → a ≠ 97 → a ≠ 100 → S a = S0 a) (hM : ∀ j, j < l → S 100 j = jw_m0 (nI f) (nI t) (jC h b 18 5) (jw_law h b) j) (hx : x = jw_some (jw_m0 (nI f) (nI t) (jC h b 18 5) (jw_law h b)) l) (k : ∀ S : Nat → Nat → Int32, S 11 43 = nI b → (∀ f, f < 49 ∨ 53 < f → S 11 f = jh_I h 11 0 f) → (∀ a, a ≠ 11 → a ≠ 97 → a ≠ 100 → S a = S0 a) → (∀ j, j < 32 → S 100 j = jw_m0 (nI f) (nI t) (jC h b 18 5) (jw_law h b) j) → jx_W (jm_MD_layMay, d + 4, 0, 0, false, 1, n0) Q 0 0 91 [some (jv_r 11 0), some (jv_i (nI f)), some (jv_i (nI t)), some (jv_i (jw_some (jw_m0 (nI f) (nI t) (jC h b 18 5) (jw_law h b)) 32)), none] [] (jS h S))  : jx_W (jm_MD_layMay, d + 4, 0, 0, false, 1, n0) Q 0 0 26 [some (jv_r 11 0), some (jv_i (nI f)), some (jv_i (nI t)), some (jv_i x), some (jv_i (nI l))] [] (jS h S) := by
  refine jr_iload rfl rfl ?_
  refine jr_ic rfl ?_
  refine jr_icmp_gt rfl (fun c28 => ?_) (fun c28 => ?_)
  · have hl2 : l = 32 := by
      have : nI 31 < nI l := c28
      rw [nI_ltI (by omega) (by omega)] at this
      omega
    subst hl2
    rw [hx]
    exact jr_drop 4 (k S hbS hfr hf0 hM)
  · have hl1 : l < 32 := by
      have : ¬ nI 31 < nI l := c28
      rw [nI_ltI (by omega) (by omega)] at this
      omega
    refine jr_aload rfl rfl ?_
    refine jr_getR rfl rfl rfl rfl (Or.inl rfl) ?_
    refine jr_iload rfl rfl ?_
    refine jr_iload rfl rfl ?_
    refine jr_iload rfl rfl ?_
    refine jr_iload rfl rfl ?_
    refine jr_cs3 (mc' := 0) (ms' := 0) rfl jm_MD_isIn_n jm_MD_isIn_f rfl rfl rfl rfl rfl (Nat.zero_le _) (Nat.zero_le _) ?_
    refine ev_MD_isIn ?_
    refine jr_zast (len := 32) rfl rfl rfl (by omega) ?_
    refine jr_aload rfl rfl ?_
    refine jr_getR rfl rfl rfl rfl (Or.inl rfl) ?_
    refine jr_iload rfl rfl ?_
    refine jr_zald (len := 32) rfl rfl rfl (by omega) ?_
    refine jr_if_eq rfl (fun c41 => ?_) (fun c41 => ?_)
    · refine jr_iload rfl rfl ?_
      refine jr_if_ne rfl (fun c53 => ?_) (fun c53 => ?_)
      · refine jr_ic rfl ?_
        refine jr_goto rfl ?_
        refine jr_ist3 rfl rfl ?_
        refine jr_goto rfl ?_
        refine jr_iinc4 rfl rfl ?_
        refine jr_goto rfl ?_
        have c41' : ((if nI f ≤ nI l ∧ nI l ≤ nI t then (1 : Int32) else 0) &&& 1) = 0 := (jg_us (S 100) l _).symm.trans c41
        rw [jc_and1] at c41'
        have hP := jc_b0 c41'
        have hm : jw_m0 (nI f) (nI t) (jC h b 18 5) (jw_law h b) l = 0 := by unfold jw_m0; rw [if_neg hP]
        have hx' : (1 : Int32) = jw_some (jw_m0 (nI f) (nI t) (jC h b 18 5) (jw_law h b)) (l + 1) := by rw [jw_some_s, ← hx, if_neg c53]
        simp only [jS_11, jS_97, jS_100, jS_r100]
        rw [jn_S]
        refine lp_MD_layMay (l + 1) hb2 hdl hmo hgl hft hl1 hbS hfr (fun a h1 h2 h3 => by simp only [if_neg h3]; exact hf0 a h1 h2 h3) (fun j hj => ?_) hx' k
        by_cases e2 : j = l
        · subst e2; exact (jg_us _ _ _).trans (by rw [jc_and1, if_neg hP]; exact hm.symm)
        · exact (jg_un e2).trans (hM j (by omega))
      · refine jr_aload rfl rfl ?_
        refine jr_getR rfl rfl rfl rfl (Or.inl rfl) ?_
        refine jr_iload rfl rfl ?_
        refine jr_zald (len := 32) rfl rfl rfl (by omega) ?_
        refine jr_if_eq rfl (fun c58 => ?_) (fun c58 => ?_)
        · refine jr_ic rfl ?_
          refine jr_ist3 rfl rfl ?_
          refine jr_goto rfl ?_
          refine jr_iinc4 rfl rfl ?_
          refine jr_goto rfl ?_
          have c41' : ((if nI f ≤ nI l ∧ nI l ≤ nI t then (1 : Int32) else 0) &&& 1) = 0 := (jg_us (S 100) l _).symm.trans c41
          rw [jc_and1] at c41'
          have hP := jc_b0 c41'
          have hm : jw_m0 (nI f) (nI t) (jC h b 18 5) (jw_law h b) l = 0 := by unfold jw_m0; rw [if_neg hP]
          have hx' : (0 : Int32) = jw_some (jw_m0 (nI f) (nI t) (jC h b 18 5) (jw_law h b)) (l + 1) := by rw [jw_some_s, ← hx, if_pos c53, hm]; rfl
          simp only [jS_11, jS_97, jS_100, jS_r100]
          rw [jn_S]
          refine lp_MD_layMay (l + 1) hb2 hdl hmo hgl hft hl1 hbS hfr (fun a h1 h2 h3 => by simp only [if_neg h3]; exact hf0 a h1 h2 h3) (fun j hj => ?_) hx' k
          by_cases e2 : j = l
          · subst e2; exact (jg_us _ _ _).trans (by rw [jc_and1, if_neg hP]; exact hm.symm)
          · exact (jg_un e2).trans (hM j (by omega))
        · refine jr_ic rfl ?_
          refine jr_goto rfl ?_
          refine jr_ist3 rfl rfl ?_
          refine jr_goto rfl ?_
          refine jr_iinc4 rfl rfl ?_
          refine jr_goto rfl ?_
          have c41' : ((if nI f ≤ nI l ∧ nI l ≤ nI t then (1 : Int32) else 0) &&& 1) = 0 := (jg_us (S 100) l _).symm.trans c41
          rw [jc_and1] at c41'
          have hP := jc_b0 c41'
          have hm : jw_m0 (nI f) (nI t) (jC h b 18 5) (jw_law h b) l = 0 := by unfold jw_m0; rw [if_neg hP]
          exact absurd ((jg_us (S 100) l _).trans (by rw [jc_and1, if_neg hP])) c58
    · refine jr_aload rfl rfl ?_
      refine jr_getR rfl rfl rfl rfl (Or.inl rfl) ?_
      refine jr_ic rfl ?_
      refine jr_aload rfl rfl ?_
      refine jr_getI rfl rfl ?_
      refine jr_imul rfl ?_
      refine jr_ic rfl ?_
      refine jr_iadd rfl ?_
      refine jr_zald (len := 12) rfl rfl (jn_add (jn_mul (jn_c 6) hbS) (jn_c 5)) (by omega) ?_
      refine jr_if_ne rfl (fun c51 => ?_) (fun c51 => ?_)
      · refine jr_aload rfl rfl ?_
        refine jr_iload rfl rfl ?_
        refine jr_cv1 (mc' := 0) (ms' := 0) rfl jm_MD_ask_n jm_MD_ask_f rfl rfl rfl rfl rfl rfl rfl (Nat.zero_le _) (Nat.zero_le _) ?_
        refine ev_MD_ask (b := b) hbS hb2 hdl (fun F hF g0 g1 g2 g3 g4 => ?_)
        refine jr_aload rfl rfl ?_
        refine jr_getR rfl rfl rfl rfl (Or.inl rfl) ?_
        refine jr_iload rfl rfl ?_
        refine jr_aload rfl rfl ?_
        refine jr_ic rfl ?_
        refine jr_cv1 (mc' := 0) (ms' := 0) rfl jm_MD_comes_n jm_MD_comes_f rfl rfl rfl rfl rfl rfl rfl (Nat.zero_le _) (Nat.zero_le _) ?_
        obtain ⟨g5, g6, g7, g8⟩ := hgl c51
        refine ev_MD_comes (b := b) (r := 5) ((hF 43 (by decide)).trans hbS) hb2 (by decide) hmo g5 g6 g7 g8 (fun G => ?_)
        refine jr_if_eq rfl (fun c73 => ?_) (fun c73 => ?_)
        · refine jr_ic rfl ?_
          refine jr_zast (len := 32) rfl rfl rfl (by omega) ?_
          refine jr_iload rfl rfl ?_
          refine jr_if_ne rfl (fun c79 => ?_) (fun c79 => ?_)
          · refine jr_ic rfl ?_
            refine jr_goto rfl ?_
            refine jr_ist3 rfl rfl ?_
            refine jr_iinc4 rfl rfl ?_
            refine jr_goto rfl ?_
            have c41' : ¬ ((if nI f ≤ nI l ∧ nI l ≤ nI t then (1 : Int32) else 0) &&& 1) = 0 := fun z => c41 ((jg_us (S 100) l _).trans z)
            rw [jc_and1] at c41'
            have hP := jc_b1 c41'
            have e : jw_asked (jC h b) (jA h) (fun i => jh_I (ju_I h 11 0 F) 11 0 (49 + i)) = jw_asked (jC h b) (jA h) (jw_lenv (jC h b) (jA h) (nI l)) := jw_asked_env g0 g1 g2 g3 g4
            have c73' : jw_law h b l = 0 := by unfold jw_law; rw [← e]; exact c73
            have hm : jw_m0 (nI f) (nI t) (jC h b 18 5) (jw_law h b) l = 0 := by unfold jw_m0; rw [if_pos hP, if_neg (show ¬ jC h b 18 5 = 0 from c51), if_pos c73']
            have hx' : (1 : Int32) = jw_some (jw_m0 (nI f) (nI t) (jC h b 18 5) (jw_law h b)) (l + 1) := by rw [jw_some_s, ← hx, if_neg c79]
            simp only [jS_11, jS_97, jS_100, jS_r100]
            rw [jn_S]
            refine lp_MD_layMay (l + 1) hb2 hdl hmo hgl hft hl1 ((hF 43 (by decide)).trans hbS) (fun f hf => (hF f hf).trans (hfr f hf)) (fun a h1 h2 h3 => by simp only [if_neg h1, if_neg h2, if_neg h3]; exact hf0 a h1 h2 h3) (fun j hj => ?_) hx' k
            by_cases e2 : j = l
            · subst e2; exact (jg_us _ _ _).trans hm.symm
            · exact (jg_un e2).trans ((jg_un e2).trans (hM j (by omega)))
          · refine jr_aload rfl rfl ?_
            refine jr_getR rfl rfl rfl rfl (Or.inl rfl) ?_
            refine jr_iload rfl rfl ?_
            refine jr_zald (len := 32) rfl rfl rfl (by omega) ?_
            refine jr_if_eq rfl (fun c84 => ?_) (fun c84 => ?_)
            · refine jr_ic rfl ?_
              refine jr_ist3 rfl rfl ?_
              refine jr_iinc4 rfl rfl ?_
              refine jr_goto rfl ?_
              have c41' : ¬ ((if nI f ≤ nI l ∧ nI l ≤ nI t then (1 : Int32) else 0) &&& 1) = 0 := fun z => c41 ((jg_us (S 100) l _).trans z)
              rw [jc_and1] at c41'
              have hP := jc_b1 c41'
              have e : jw_asked (jC h b) (jA h) (fun i => jh_I (ju_I h 11 0 F) 11 0 (49 + i)) = jw_asked (jC h b) (jA h) (jw_lenv (jC h b) (jA h) (nI l)) := jw_asked_env g0 g1 g2 g3 g4
              have c73' : jw_law h b l = 0 := by unfold jw_law; rw [← e]; exact c73
              have hm : jw_m0 (nI f) (nI t) (jC h b 18 5) (jw_law h b) l = 0 := by unfold jw_m0; rw [if_pos hP, if_neg (show ¬ jC h b 18 5 = 0 from c51), if_pos c73']
              have hx' : (0 : Int32) = jw_some (jw_m0 (nI f) (nI t) (jC h b 18 5) (jw_law h b)) (l + 1) := by rw [jw_some_s, ← hx, if_pos c79, hm]; rfl
              simp only [jS_11, jS_97, jS_100, jS_r100]
              rw [jn_S]
              refine lp_MD_layMay (l + 1) hb2 hdl hmo hgl hft hl1 ((hF 43 (by decide)).trans hbS) (fun f hf => (hF f hf).trans (hfr f hf)) (fun a h1 h2 h3 => by simp only [if_neg h1, if_neg h2, if_neg h3]; exact hf0 a h1 h2 h3) (fun j hj => ?_) hx' k
              by_cases e2 : j = l
              · subst e2; exact (jg_us _ _ _).trans hm.symm
              · exact (jg_un e2).trans ((jg_un e2).trans (hM j (by omega)))
            · refine jr_ic rfl ?_
              refine jr_goto rfl ?_
              refine jr_ist3 rfl rfl ?_
              refine jr_iinc4 rfl rfl ?_
              refine jr_goto rfl ?_
              have c41' : ¬ ((if nI f ≤ nI l ∧ nI l ≤ nI t then (1 : Int32) else 0) &&& 1) = 0 := fun z => c41 ((jg_us (S 100) l _).trans z)
              rw [jc_and1] at c41'
              have hP := jc_b1 c41'
              have e : jw_asked (jC h b) (jA h) (fun i => jh_I (ju_I h 11 0 F) 11 0 (49 + i)) = jw_asked (jC h b) (jA h) (jw_lenv (jC h b) (jA h) (nI l)) := jw_asked_env g0 g1 g2 g3 g4
              have c73' : jw_law h b l = 0 := by unfold jw_law; rw [← e]; exact c73
              have hm : jw_m0 (nI f) (nI t) (jC h b 18 5) (jw_law h b) l = 0 := by unfold jw_m0; rw [if_pos hP, if_neg (show ¬ jC h b 18 5 = 0 from c51), if_pos c73']
              exact absurd (jg_us _ l _) c84
        · refine jr_ic rfl ?_
          refine jr_goto rfl ?_
          refine jr_zast (len := 32) rfl rfl rfl (by omega) ?_
          refine jr_iload rfl rfl ?_
          refine jr_if_ne rfl (fun c79 => ?_) (fun c79 => ?_)
          · refine jr_ic rfl ?_
            refine jr_goto rfl ?_
            refine jr_ist3 rfl rfl ?_
            refine jr_iinc4 rfl rfl ?_
            refine jr_goto rfl ?_
            have c41' : ¬ ((if nI f ≤ nI l ∧ nI l ≤ nI t then (1 : Int32) else 0) &&& 1) = 0 := fun z => c41 ((jg_us (S 100) l _).trans z)
            rw [jc_and1] at c41'
            have hP := jc_b1 c41'
            have e : jw_asked (jC h b) (jA h) (fun i => jh_I (ju_I h 11 0 F) 11 0 (49 + i)) = jw_asked (jC h b) (jA h) (jw_lenv (jC h b) (jA h) (nI l)) := jw_asked_env g0 g1 g2 g3 g4
            have c73' : ¬ jw_law h b l = 0 := by unfold jw_law; rw [← e]; exact c73
            have hm : jw_m0 (nI f) (nI t) (jC h b 18 5) (jw_law h b) l = 1 := by unfold jw_m0; rw [if_pos hP, if_neg (show ¬ jC h b 18 5 = 0 from c51), if_neg c73']
            have hx' : (1 : Int32) = jw_some (jw_m0 (nI f) (nI t) (jC h b 18 5) (jw_law h b)) (l + 1) := by rw [jw_some_s, ← hx, if_neg c79]
            simp only [jS_11, jS_97, jS_100, jS_r100]
            rw [jn_S]
            refine lp_MD_layMay (l + 1) hb2 hdl hmo hgl hft hl1 ((hF 43 (by decide)).trans hbS) (fun f hf => (hF f hf).trans (hfr f hf)) (fun a h1 h2 h3 => by simp only [if_neg h1, if_neg h2, if_neg h3]; exact hf0 a h1 h2 h3) (fun j hj => ?_) hx' k
            by_cases e2 : j = l
            · subst e2; exact (jg_us _ _ _).trans hm.symm
            · exact (jg_un e2).trans ((jg_un e2).trans (hM j (by omega)))
          · refine jr_aload rfl rfl ?_
            refine jr_getR rfl rfl rfl rfl (Or.inl rfl) ?_
            refine jr_iload rfl rfl ?_
            refine jr_zald (len := 32) rfl rfl rfl (by omega) ?_
            refine jr_if_eq rfl (fun c84 => ?_) (fun c84 => ?_)
            · refine jr_ic rfl ?_
              refine jr_ist3 rfl rfl ?_
              refine jr_iinc4 rfl rfl ?_
              refine jr_goto rfl ?_
              have c41' : ¬ ((if nI f ≤ nI l ∧ nI l ≤ nI t then (1 : Int32) else 0) &&& 1) = 0 := fun z => c41 ((jg_us (S 100) l _).trans z)
              rw [jc_and1] at c41'
              have hP := jc_b1 c41'
              have e : jw_asked (jC h b) (jA h) (fun i => jh_I (ju_I h 11 0 F) 11 0 (49 + i)) = jw_asked (jC h b) (jA h) (jw_lenv (jC h b) (jA h) (nI l)) := jw_asked_env g0 g1 g2 g3 g4
              have c73' : ¬ jw_law h b l = 0 := by unfold jw_law; rw [← e]; exact c73
              have hm : jw_m0 (nI f) (nI t) (jC h b 18 5) (jw_law h b) l = 1 := by unfold jw_m0; rw [if_pos hP, if_neg (show ¬ jC h b 18 5 = 0 from c51), if_neg c73']
              exact absurd ((jg_us _ l _).symm.trans c84) (by decide)
            · refine jr_ic rfl ?_
              refine jr_goto rfl ?_
              refine jr_ist3 rfl rfl ?_
              refine jr_iinc4 rfl rfl ?_
              refine jr_goto rfl ?_
              have c41' : ¬ ((if nI f ≤ nI l ∧ nI l ≤ nI t then (1 : Int32) else 0) &&& 1) = 0 := fun z => c41 ((jg_us (S 100) l _).trans z)
              rw [jc_and1] at c41'
              have hP := jc_b1 c41'
              have e : jw_asked (jC h b) (jA h) (fun i => jh_I (ju_I h 11 0 F) 11 0 (49 + i)) = jw_asked (jC h b) (jA h) (jw_lenv (jC h b) (jA h) (nI l)) := jw_asked_env g0 g1 g2 g3 g4
              have c73' : ¬ jw_law h b l = 0 := by unfold jw_law; rw [← e]; exact c73
              have hm : jw_m0 (nI f) (nI t) (jC h b 18 5) (jw_law h b) l = 1 := by unfold jw_m0; rw [if_pos hP, if_neg (show ¬ jC h b 18 5 = 0 from c51), if_neg c73']
              have hx' : (1 : Int32) = jw_some (jw_m0 (nI f) (nI t) (jC h b 18 5) (jw_law h b)) (l + 1) := by rw [jw_some_s, ← hx, if_pos c79, hm]; rfl
              simp only [jS_11, jS_97, jS_100, jS_r100]
              rw [jn_S]
              refine lp_MD_layMay (l + 1) hb2 hdl hmo hgl hft hl1 ((hF 43 (by decide)).trans hbS) (fun f hf => (hF f hf).trans (hfr f hf)) (fun a h1 h2 h3 => by simp only [if_neg h1, if_neg h2, if_neg h3]; exact hf0 a h1 h2 h3) (fun j hj => ?_) hx' k
              by_cases e2 : j = l
              · subst e2; exact (jg_us _ _ _).trans hm.symm
              · exact (jg_un e2).trans ((jg_un e2).trans (hM j (by omega)))
      · refine jr_iload rfl rfl ?_
        refine jr_if_ne rfl (fun c53 => ?_) (fun c53 => ?_)
        · refine jr_ic rfl ?_
          refine jr_goto rfl ?_
          refine jr_ist3 rfl rfl ?_
          refine jr_goto rfl ?_
          refine jr_iinc4 rfl rfl ?_
          refine jr_goto rfl ?_
          have c41' : ¬ ((if nI f ≤ nI l ∧ nI l ≤ nI t then (1 : Int32) else 0) &&& 1) = 0 := fun z => c41 ((jg_us (S 100) l _).trans z)
          rw [jc_and1] at c41'
          have hP := jc_b1 c41'
          have hm : jw_m0 (nI f) (nI t) (jC h b 18 5) (jw_law h b) l = 1 := by unfold jw_m0; rw [if_pos hP, if_pos (show jC h b 18 5 = 0 from c51)]
          have hx' : (1 : Int32) = jw_some (jw_m0 (nI f) (nI t) (jC h b 18 5) (jw_law h b)) (l + 1) := by rw [jw_some_s, ← hx, if_neg c53]
          simp only [jS_11, jS_97, jS_100, jS_r100]
          rw [jn_S]
          refine lp_MD_layMay (l + 1) hb2 hdl hmo hgl hft hl1 hbS hfr (fun a h1 h2 h3 => by simp only [if_neg h3]; exact hf0 a h1 h2 h3) (fun j hj => ?_) hx' k
          by_cases e2 : j = l
          · subst e2; exact (jg_us _ _ _).trans (by rw [jc_and1, if_pos hP]; exact hm.symm)
          · exact (jg_un e2).trans (hM j (by omega))
        · refine jr_aload rfl rfl ?_
          refine jr_getR rfl rfl rfl rfl (Or.inl rfl) ?_
          refine jr_iload rfl rfl ?_
          refine jr_zald (len := 32) rfl rfl rfl (by omega) ?_
          refine jr_if_eq rfl (fun c58 => ?_) (fun c58 => ?_)
          · refine jr_ic rfl ?_
            refine jr_ist3 rfl rfl ?_
            refine jr_goto rfl ?_
            refine jr_iinc4 rfl rfl ?_
            refine jr_goto rfl ?_
            have c41' : ¬ ((if nI f ≤ nI l ∧ nI l ≤ nI t then (1 : Int32) else 0) &&& 1) = 0 := fun z => c41 ((jg_us (S 100) l _).trans z)
            rw [jc_and1] at c41'
            have hP := jc_b1 c41'
            have hm : jw_m0 (nI f) (nI t) (jC h b 18 5) (jw_law h b) l = 1 := by unfold jw_m0; rw [if_pos hP, if_pos (show jC h b 18 5 = 0 from c51)]
            have c58' := (jg_us (S 100) l _).symm.trans c58
            rw [jc_and1, if_pos hP] at c58'
            exact absurd c58' (by decide)
          · refine jr_ic rfl ?_
            refine jr_goto rfl ?_
            refine jr_ist3 rfl rfl ?_
            refine jr_goto rfl ?_
            refine jr_iinc4 rfl rfl ?_
            refine jr_goto rfl ?_
            have c41' : ¬ ((if nI f ≤ nI l ∧ nI l ≤ nI t then (1 : Int32) else 0) &&& 1) = 0 := fun z => c41 ((jg_us (S 100) l _).trans z)
            rw [jc_and1] at c41'
            have hP := jc_b1 c41'
            have hm : jw_m0 (nI f) (nI t) (jC h b 18 5) (jw_law h b) l = 1 := by unfold jw_m0; rw [if_pos hP, if_pos (show jC h b 18 5 = 0 from c51)]
            have hx' : (1 : Int32) = jw_some (jw_m0 (nI f) (nI t) (jC h b 18 5) (jw_law h b)) (l + 1) := by rw [jw_some_s, ← hx, if_pos c53, hm]; rfl
            simp only [jS_11, jS_97, jS_100, jS_r100]
            rw [jn_S]
            refine lp_MD_layMay (l + 1) hb2 hdl hmo hgl hft hl1 hbS hfr (fun a h1 h2 h3 => by simp only [if_neg h3]; exact hf0 a h1 h2 h3) (fun j hj => ?_) hx' k
            by_cases e2 : j = l
            · subst e2; exact (jg_us _ _ _).trans (by rw [jc_and1, if_pos hP]; exact hm.symm)
            · exact (jg_un e2).trans (hM j (by omega))
termination_by 32 - l
decreasing_by all_goals omega

theorem jw_m0_01 {f t has : Int32} {P : Nat → Int32} {l : Nat} (h : ¬ jw_m0 f t has P l = 0) : jw_m0 f t has P l = 1 := by
  unfold jw_m0 at h ⊢
  split at h
  · split at h
    · rename_i a b; rw [if_pos a, if_pos b]
    · split at h
      · exact absurd rfl h
      · rename_i a b c; rw [if_pos a, if_neg b, if_neg c]
  · exact absurd rfl h
theorem jw_may_out {f t has : Int32} {P : Nat → Int32} {l : Nat} (h : ¬ (f ≤ nI l ∧ nI l ≤ t)) : jw_may f t has P l = jw_m0 f t has P l := by
  unfold jw_may jw_m0
  rw [if_neg h, if_neg h]
theorem jw_may_in {f t has : Int32} {P : Nat → Int32} {l : Nat} (h : f ≤ nI l ∧ nI l ≤ t) : jw_may f t has P l = if jw_some (jw_m0 f t has P) 32 = 0 then 1 else jw_m0 f t has P l := by
  unfold jw_may
  rw [if_pos h]
set_option maxHeartbeats 4000000 in
set_option maxRecDepth 100000 in
theorem lp_MD_layMay2 {d : Nat} {Q : Option jx_V → jx_H → Prop} {b n0 f t : Nat} {h : jx_H} {S S0 : Nat → Nat → Int32} (l : Nat) (hft : t ≤ 31) (hfl : f ≤ l) (hlt : l ≤ 32) (hfr : ∀ f, f < 49 ∨ 53 < f → S 11 f = jh_I h 11 0 f) (hf0 : ∀ a, a ≠ 11 → a ≠ 97 → a ≠ 100 → S a = S0 a) (hM : ∀ j, j < 32 → S 100 j = if j < l then jw_may (nI f) (nI t) (jC h b 18 5) (jw_law h b) j else jw_m0 (nI f) (nI t) (jC h b 18 5) (jw_law h b) j) (hQ : ∀ S : Nat → Nat → Int32, (∀ f, f < 49 ∨ 53 < f → S 11 f = jh_I h 11 0 f) → (∀ a, a ≠ 11 → a ≠ 97 → a ≠ 100 → S a = S0 a) → (∀ j, j < 32 → S 100 j = jw_may (nI f) (nI t) (jC h b 18 5) (jw_law h b) j) → Q none (jS h S))  : jx_W (jm_MD_layMay, d + 4, 0, 0, false, 1, n0) Q 0 0 93 [some (jv_r 11 0), some (jv_i (nI f)), some (jv_i (nI t)), some (jv_i (jw_some (jw_m0 (nI f) (nI t) (jC h b 18 5) (jw_law h b)) 32)), some (jv_i (nI l))] [] (jS h S) := by
  refine jr_iload rfl rfl ?_
  refine jr_iload rfl rfl ?_
  refine jr_icmp_gt rfl (fun c95 => ?_) (fun c95 => ?_)
  · refine jr_vret rfl rfl (Nat.zero_le _) (Nat.zero_le _) ?_
    have hlt2 : t < l := by
      have : nI t < nI l := c95
      rw [nI_ltI (by omega) (by omega)] at this
      omega
    refine hQ S hfr hf0 (fun j hj => (hM j hj).trans ?_)
    by_cases e3 : j < l
    · rw [if_pos e3]
    · rw [if_neg e3]
      exact (jw_may_out (fun z => nI_ge (show t < j by omega) (by omega) z.2)).symm
  · have hlt2 : l ≤ t := by
      have : ¬ nI t < nI l := c95
      rw [nI_ltI (by omega) (by omega)] at this
      omega
    have hP : nI f ≤ nI l ∧ nI l ≤ nI t := ⟨nI_le hfl (by omega), nI_le hlt2 (by omega)⟩
    have hMl : S 100 l = jw_m0 (nI f) (nI t) (jC h b 18 5) (jw_law h b) l := by have := hM l (by omega); rw [if_neg (by omega)] at this; exact this
    refine jr_aload rfl rfl ?_
    refine jr_getR rfl rfl rfl rfl (Or.inl rfl) ?_
    refine jr_iload rfl rfl ?_
    refine jr_aload rfl rfl ?_
    refine jr_getR rfl rfl rfl rfl (Or.inl rfl) ?_
    refine jr_iload rfl rfl ?_
    refine jr_zald (len := 32) rfl rfl rfl (by omega) ?_
    refine jr_if_ne rfl (fun c103 => ?_) (fun c103 => ?_)
    · refine jr_ic rfl ?_
      refine jr_goto rfl ?_
      refine jr_zast (len := 32) rfl rfl rfl (by omega) ?_
      refine jr_iinc4 rfl rfl ?_
      refine jr_goto rfl ?_
      have hv : jw_may (nI f) (nI t) (jC h b 18 5) (jw_law h b) l = 1 := by
        rw [jw_may_in hP]
        have c103' : ¬ jw_m0 (nI f) (nI t) (jC h b 18 5) (jw_law h b) l = 0 := fun z => c103 (hMl.trans z)
        rw [jw_m0_01 c103']
        split <;> rfl
      simp only [jS_100, jS_r100]
      rw [jn_S]
      refine lp_MD_layMay2 (l + 1) hft (by omega) (by omega) hfr (fun a h1 h2 h3 => by simp only [if_neg h3]; exact hf0 a h1 h2 h3) (fun j hj => ?_) hQ
      by_cases e2 : j = l
      · subst e2; exact (jg_us _ _ _).trans ((if_pos (Nat.lt_succ_self _)).trans hv).symm
      · refine (jg_un e2).trans ((hM j hj).trans ?_)
        by_cases e3 : j < l
        · rw [if_pos e3, if_pos (by omega)]
        · rw [if_neg e3, if_neg (by omega)]
    · refine jr_iload rfl rfl ?_
      refine jr_if_ne rfl (fun c105 => ?_) (fun c105 => ?_)
      · refine jr_ic rfl ?_
        refine jr_zast (len := 32) rfl rfl rfl (by omega) ?_
        refine jr_iinc4 rfl rfl ?_
        refine jr_goto rfl ?_
        have hv : jw_may (nI f) (nI t) (jC h b 18 5) (jw_law h b) l = 0 := by
          rw [jw_may_in hP]
          rw [if_neg c105]; exact hMl.symm.trans c103
        simp only [jS_100, jS_r100]
        rw [jn_S]
        refine lp_MD_layMay2 (l + 1) hft (by omega) (by omega) hfr (fun a h1 h2 h3 => by simp only [if_neg h3]; exact hf0 a h1 h2 h3) (fun j hj => ?_) hQ
        by_cases e2 : j = l
        · subst e2; exact (jg_us _ _ _).trans ((if_pos (Nat.lt_succ_self _)).trans hv).symm
        · refine (jg_un e2).trans ((hM j hj).trans ?_)
          by_cases e3 : j < l
          · rw [if_pos e3, if_pos (by omega)]
          · rw [if_neg e3, if_neg (by omega)]
      · refine jr_ic rfl ?_
        refine jr_goto rfl ?_
        refine jr_zast (len := 32) rfl rfl rfl (by omega) ?_
        refine jr_iinc4 rfl rfl ?_
        refine jr_goto rfl ?_
        have hv : jw_may (nI f) (nI t) (jC h b 18 5) (jw_law h b) l = 1 := by
          rw [jw_may_in hP]
          rw [if_pos c105]
        simp only [jS_100, jS_r100]
        rw [jn_S]
        refine lp_MD_layMay2 (l + 1) hft (by omega) (by omega) hfr (fun a h1 h2 h3 => by simp only [if_neg h3]; exact hf0 a h1 h2 h3) (fun j hj => ?_) hQ
        by_cases e2 : j = l
        · subst e2; exact (jg_us _ _ _).trans ((if_pos (Nat.lt_succ_self _)).trans hv).symm
        · refine (jg_un e2).trans ((hM j hj).trans ?_)
          by_cases e3 : j < l
          · rw [if_pos e3, if_pos (by omega)]
          · rw [if_neg e3, if_neg (by omega)]
termination_by 33 - l
decreasing_by all_goals omega

