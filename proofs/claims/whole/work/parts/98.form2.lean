theorem jT_rk41 : jT_rk 41 = 0 := by decide
theorem jR_12 (k : Nat) : jR_kd 2 k = 1 ∨ jR_kd 2 k = 2 := by
  unfold jR_kd
  split
  · exact Or.inl rfl
  · exact Or.inr rfl
set_option maxHeartbeats 800000 in
set_option maxRecDepth 100000 in
theorem lp_ub {d n0 : Nat} {Q : Option jx_V → jx_H → Prop} {h : jx_H} {B : Nat → Int32} {sz T β ρ n t u v c i : Nat} {x2 x3 : Int32} (hsub : jCH B sz T β ρ n 0 1 1 13) (z : jZ h B sz T ρ t u v c) (hin : i + (n + 1) = 7) (hbd : jBd B sz t u v c) (hK : jT_K B sz t = 40) (hu : u < 90) (hv : v < 30) (k : ∀ r h', jO B sz T β ρ i 5 7 7 t u v c h r h' → Q r h')  : jx_W (jm_Rdr_readUnit, d + 10 * (n + 1) + 6, 0, 0, false, 0, n0) Q 0 0 57 [some (jv_r 6 0), some (jv_i (nI i)), some (jv_i x2), some (jv_i x3)] [] h := by
  obtain ⟨z1, z2, z3, z4, z5, z6, z7, z8⟩ := id z
  have hM := z4
  have hk : jh_I h 9 0 8 = nI (jT_K B sz t) := z2.2.1
  obtain ⟨b1, b2, b3, b4⟩ := id hbd
  have hc := jBd_c hbd
  have hkl : jT_K B sz t < 256 := jT_k_lt
  have zu := jZ_U z
  refine jr_aload rfl rfl ?_
  refine jr_getM rfl rfl rfl rfl hM ?_
  refine jr_dup_r rfl ?_
  refine jr_getI rfl rfl ?_
  refine jr_ic rfl ?_
  refine jr_iadd rfl ?_
  refine jr_putI rfl rfl ?_
  refine jr_aload rfl rfl ?_
  refine jr_dup_r rfl ?_
  refine jr_getI rfl rfl ?_
  refine jr_ic rfl ?_
  refine jr_iadd rfl ?_
  refine jr_putI rfl rfl ?_
  show jx_W _ _ _ _ _ _ _ (jU h ρ)
  refine jr_aload rfl rfl ?_
  refine jr_getR rfl rfl rfl rfl (Or.inl rfl) ?_
  refine jr_getI rfl rfl ?_
  refine jr_ic rfl ?_
  refine jr_icmp_ne rfl (fun z => absurd (hk.trans (by rw [hK]; rfl)) z) (fun _ => ?_)
  refine jr_aload rfl rfl ?_
  refine jr_getR rfl rfl rfl rfl (Or.inl rfl) ?_
  refine jr_cv0 (mc' := 0) (ms' := 0) rfl jm_Tape_take_n jm_Tape_take_f rfl rfl rfl rfl rfl rfl rfl (Nat.zero_le _) (Nat.zero_le _) ?_
  refine ev_take (B := B) (sz := sz) zu.1 zu.2.1.1 (jT_next z1 z3 (by omega)) (fun h3 g3 c3 => ?_)
  have z33 := jZ_take zu g3 c3 (jT_next z1 z3 (by omega))
  have hg1 := jT_f_gt (B := B) (sz := sz) (t := t) (by omega)
  refine jr_aload rfl rfl ?_
  refine jr_ic rfl ?_
  refine jr_iload rfl rfl ?_
  refine jr_ic rfl ?_
  refine jr_iadd rfl ?_
  rw [jn_S]
  refine jr_cv2 (mc' := 0) (ms' := 0) rfl jm_Rdr_readChain_n jm_Rdr_readChain_f rfl rfl rfl rfl rfl rfl rfl (Nat.zero_le _) (Nat.zero_le _) ?_
  rw [show d + 10 * (n + 1) + 5 = (d + 2) + 10 * n + 13 by omega]
  refine hsub (d + 2) h3 (t + 1) (u + 1) (v + 1) c (i + 1) _ z33 (by omega) ⟨by omega, by omega, by omega, b4⟩ (fun r h4 o4 => ?_)
  rcases o4 with ⟨rfl, x, t1, c1, y1, y2, y3, y4, y5, y6, y7, y8, y9⟩ | ⟨rfl, kd, pl, y1, y2, y3, y4, y5⟩
  · have hk1 : jh_I h4 9 0 8 = nI (jT_K B sz t1) := y1.2.1.2.1
    have hkl1 : jT_K B sz t1 < 256 := jT_k_lt
    have hg2 := jT_f_gt (B := B) (sz := sz) (t := t) (by omega)
    by_cases hK1 : jT_K B sz t1 = 41
    · refine jr_if_eq rfl (fun z => absurd z (by decide)) (fun _ => ?_)
      refine jr_aload rfl rfl ?_
      refine jr_ic rfl ?_
      refine jr_cv1 (mc' := 0) (ms' := 0) rfl jm_Rdr_want_n jm_Rdr_want_f rfl rfl rfl rfl rfl rfl rfl (Nat.zero_le _) (Nat.zero_le _) ?_
      show jx_W (jm_Rdr_want, _, _, _, _, _, _) _ 0 0 0 [some _, some _] [] _
      refine jr_aload rfl rfl ?_
      refine jr_getR rfl rfl rfl rfl (Or.inl rfl) ?_
      refine jr_getI rfl rfl ?_
      refine jr_iload rfl rfl ?_
      refine jr_icmp_eq rfl (fun _ => ?_) (fun z => absurd (hk1.trans (by rw [hK1]; rfl)) z)
      refine jr_aload rfl rfl ?_
      refine jr_getR rfl rfl rfl rfl (Or.inl rfl) ?_
      refine jr_cv0 (mc' := 0) (ms' := 0) rfl jm_Tape_take_n jm_Tape_take_f rfl rfl rfl rfl rfl rfl rfl (Nat.zero_le _) (Nat.zero_le _) ?_
      refine ev_take (B := B) (sz := sz) y1.1 y1.2.1.1 (jT_next y1.1 y1.2.2.1 (by omega)) (fun h5 g5 c5 => ?_)
      refine jr_ic rfl ?_
      refine jr_zret rfl rfl rfl (Nat.zero_le _) (Nat.zero_le _) ?_
      refine jr_if_eq rfl (fun z => absurd z (by decide)) (fun _ => ?_)
      refine jr_ic rfl ?_
      refine jr_goto rfl ?_
      refine jr_zret rfl rfl rfl (Nat.zero_le _) (Nat.zero_le _) ?_
      have hg3 := jT_f_gt (B := B) (sz := sz) (t := t1) (by omega)
      refine k _ _ (Or.inl ⟨rfl, x + 1, t1 + 1, c1, ?_, jZ_F_t (Nat.le_refl c) (jZ_F_t (Nat.le_refl c) (jZ_F_U h ρ c) (jZ_F_G g3)) (jZ_F_t y3 y2 (jZ_F_G g5)), y3, by omega, by omega, by omega, ?_, Or.inl (jT_rk_lt _), ?_⟩)
      · rw [show u + (x + 1) = u + 1 + x by omega, show v + (x + 1) = v + 1 + x by omega]
        exact jZ_take y1 g5 c5 (jT_next y1.1 y1.2.2.1 (by omega))
      · rw [if_neg (by omega)]; omega
      · rw [g5.1 25 ρ (by decide)]
        exact jTR_br hK (by omega) hu hv y9 hK1
    · refine jr_if_eq rfl (fun z => absurd z (by decide)) (fun _ => ?_)
      refine jr_aload rfl rfl ?_
      refine jr_ic rfl ?_
      refine jr_cv1 (mc' := 0) (ms' := 0) rfl jm_Rdr_want_n jm_Rdr_want_f rfl rfl rfl rfl rfl rfl rfl (Nat.zero_le _) (Nat.zero_le _) ?_
      show jx_W (jm_Rdr_want, _, _, _, _, _, _) _ 0 0 0 [some _, some _] [] _
      refine jr_aload rfl rfl ?_
      refine jr_getR rfl rfl rfl rfl (Or.inl rfl) ?_
      refine jr_getI rfl rfl ?_
      refine jr_iload rfl rfl ?_
      refine jr_icmp_eq rfl (fun z => absurd z (fun y => hK1 (jn_eq (hk1.symm.trans (show jh_I h4 9 0 8 = nI 41 from y)) (by omega) (by decide)))) (fun _ => ?_)
      refine jr_aload rfl rfl ?_
      refine jr_ic rfl ?_
      refine jr_cv1 (mc' := 0) (ms' := 0) rfl jm_Rdr_refuse_n jm_Rdr_refuse_f rfl rfl rfl rfl rfl rfl rfl (Nat.zero_le _) (Nat.zero_le _) ?_
      refine ev_refuse (B := B) (sz := sz) (t := t1) y1.2.1 (fun h5 g5 => ?_)
      refine jr_zret rfl rfl rfl (Nat.zero_le _) (Nat.zero_le _) ?_
      refine jr_if_eq rfl (fun _ => ?_) (fun z => absurd (by decide) z)
      refine jr_ic rfl ?_
      refine jr_zret rfl rfl rfl (Nat.zero_le _) (Nat.zero_le _) ?_
      refine k _ _ (Or.inr ⟨rfl, _, _, g5.2.2.2.1, g5.2.2.2.2, ⟨jR_12 _, jT_p_le⟩, jZ_F_t (Nat.le_refl c) (jZ_F_t (Nat.le_refl c) (jZ_F_U h ρ c) (jZ_F_G g3)) (jZ_F_t y3 y2 (jZ_F_ft g5)), ?_⟩)
      rw [g5.1 25 ρ (by decide)]
      exact jTB_bc hK (by omega) hu hv y9 y8 hK1
  · refine jr_if_eq rfl (fun _ => ?_) (fun z => absurd (by decide) z)
    refine jr_ic rfl ?_
    refine jr_zret rfl rfl rfl (Nat.zero_le _) (Nat.zero_le _) ?_
    exact k _ _ (Or.inr ⟨rfl, kd, pl, y1, y2, y3, jZ_F_t (Nat.le_refl c) (jZ_F_t (Nat.le_refl c) (jZ_F_U h ρ c) (jZ_F_G g3)) y4, jTB_br hK (by omega) hu hv y5⟩)

set_option maxHeartbeats 800000 in
set_option maxRecDepth 100000 in
theorem ev_unit {d : Nat} {h : jx_H} {Q : Option jx_V → jx_H → Prop} {B : Nat → Int32} {sz T β ρ n t u v c i : Nat}  (hsub : ∀ m, n = m + 1 → jCH B sz T β ρ m 0 1 1 13) (z : jZ h B sz T ρ t u v c) (hin : i + n = 7) (hbd : jBd B sz t u v c) (k : ∀ r h', jO B sz T β ρ i 5 7 7 t u v c h r h' → Q r h')  : jx_Ev jm_Rdr_readUnit (d + 10 * n + 6) 0 0 false 0 [jv_r 6 0, jv_i (nI i)] h Q := by
  show jx_W (jm_Rdr_readUnit, d + 10 * n + 6, 0, 0, false, 0, _) Q 0 0 0 [some (jv_r 6 0), some (jv_i (nI i)), none, none] [] _
  obtain ⟨z1, z2, z3, z4, z5, z6, z7, z8⟩ := id z
  have hM := z4
  have hk : jh_I h 9 0 8 = nI (jT_K B sz t) := z2.2.1
  obtain ⟨b1, b2, b3, b4⟩ := id hbd
  have hc := jBd_c hbd
  have hkl : jT_K B sz t < 256 := jT_k_lt
  refine jr_aload rfl rfl ?_
  refine jr_getR rfl rfl rfl rfl (Or.inl rfl) ?_
  refine jr_getI rfl rfl ?_
  refine jr_ic rfl ?_
  rw [hk]
  refine jr_icmp_lt rfl (fun c4 => ?_) (fun c4 => ?_)
  · refine jr_ic rfl ?_
    refine jr_ist2 rfl rfl ?_
    refine jr_aload rfl rfl ?_
    refine jr_getR rfl rfl rfl rfl (Or.inl rfl) ?_
    refine jr_getI rfl rfl ?_
    refine jr_ic rfl ?_
    rw [hk]
    refine jr_icmp_ne rfl (fun c18 => ?_) (fun c18 => ?_)
    · refine jr_ic rfl ?_
      refine jr_ist3 rfl rfl ?_
      refine jr_iload rfl rfl ?_
      refine jr_if_ne rfl (fun z => absurd (by decide) z) (fun _ => ?_)
      refine jr_aload rfl rfl ?_
      refine jr_getR rfl rfl rfl rfl (Or.inl rfl) ?_
      refine jr_getI rfl rfl ?_
      refine jr_ic rfl ?_
      rw [hk]
      refine jr_icmp_eq rfl (fun c32 => ?_) (fun c32 => ?_)
      · refine jr_iload rfl rfl ?_
        refine jr_if_eq rfl (fun _ => ?_) (fun z => absurd (by decide) z)
        refine jr_aload rfl rfl ?_
        refine jr_getM rfl rfl rfl rfl hM ?_
        refine jr_getI rfl rfl ?_
        refine jr_ic rfl ?_
        rw [z5]
        refine jr_icmp_ge rfl (fun c48 => ?_) (fun c48 => ?_)
        · refine jr_aload rfl rfl ?_
          refine jr_ic rfl ?_
          refine jr_cv1 (mc' := 0) (ms' := 0) rfl jm_Rdr_refuse_n jm_Rdr_refuse_f rfl rfl rfl rfl rfl rfl rfl (Nat.zero_le _) (Nat.zero_le _) ?_
          refine ev_refuse (B := B) (sz := sz) (t := t) z2 (fun h1 g1 => ?_)
          refine jr_zret rfl rfl rfl (Nat.zero_le _) (Nat.zero_le _) ?_
          have hwh := @jT_wh_iff (jT_K B sz t)
          have f4 := jn_lt (show nI (jT_K B sz t) < nI 100 from c4) (by omega) (by decide)
          have f18 : jT_K B sz t ≠ 40 := fun y => c18 (by rw [y]; rfl)
          have f32 := jn_eq (show nI (jT_K B sz t) = nI 2 from c32) (by omega) (by decide)
          have f48 := jn_le (show nI 90 ≤ nI u from c48) (by decide) (by omega)
          refine k _ _ (Or.inr ⟨rfl, _, _, g1.2.2.2.1, g1.2.2.2.2, ⟨jR_12 _, jT_p_le⟩, jZ_F_ft g1, ?_⟩)
          rw [g1.1 25 ρ (by decide)]
          exact jTB_r b1 b2 (Nat.le_refl _) (fun w hw hw2 => by omega)
        · refine jr_aload rfl rfl ?_
          refine jr_getI rfl rfl ?_
          refine jr_ic rfl ?_
          rw [z6]
          refine jr_icmp_lt rfl (fun c52 => ?_) (fun c52 => ?_)
          · have f4 := jn_lt (show nI (jT_K B sz t) < nI 100 from c4) (by omega) (by decide)
            have f18 : jT_K B sz t ≠ 40 := fun y => c18 (by rw [y]; rfl)
            have f32 := jn_eq (show nI (jT_K B sz t) = nI 2 from c32) (by omega) (by decide)
            have f48 := jn_nle (show ¬ nI 90 ≤ nI u from c48) (by decide) (by omega)
            have f52 := jn_lt (show nI v < nI 30 from c52) (by omega) (by decide)
            exact lp_un z hin hbd (by omega) (by omega) (by omega) k
          · refine jr_aload rfl rfl ?_
            refine jr_ic rfl ?_
            refine jr_cv1 (mc' := 0) (ms' := 0) rfl jm_Rdr_refuse_n jm_Rdr_refuse_f rfl rfl rfl rfl rfl rfl rfl (Nat.zero_le _) (Nat.zero_le _) ?_
            refine ev_refuse (B := B) (sz := sz) (t := t) z2 (fun h1 g1 => ?_)
            refine jr_zret rfl rfl rfl (Nat.zero_le _) (Nat.zero_le _) ?_
            have hwh := @jT_wh_iff (jT_K B sz t)
            have f4 := jn_lt (show nI (jT_K B sz t) < nI 100 from c4) (by omega) (by decide)
            have f18 : jT_K B sz t ≠ 40 := fun y => c18 (by rw [y]; rfl)
            have f32 := jn_eq (show nI (jT_K B sz t) = nI 2 from c32) (by omega) (by decide)
            have f48 := jn_nle (show ¬ nI 90 ≤ nI u from c48) (by decide) (by omega)
            have f52 := jn_nlt (show ¬ nI v < nI 30 from c52) (by omega) (by decide)
            refine k _ _ (Or.inr ⟨rfl, _, _, g1.2.2.2.1, g1.2.2.2.2, ⟨jR_12 _, jT_p_le⟩, jZ_F_ft g1, ?_⟩)
            rw [g1.1 25 ρ (by decide)]
            exact jTB_r b1 b2 (Nat.le_refl _) (fun w hw hw2 => by omega)
      · refine jr_aload rfl rfl ?_
        refine jr_getR rfl rfl rfl rfl (Or.inl rfl) ?_
        refine jr_getI rfl rfl ?_
        refine jr_ic rfl ?_
        rw [hk]
        refine jr_icmp_ne rfl (fun c37 => ?_) (fun c37 => ?_)
        · refine jr_aload rfl rfl ?_
          refine jr_ic rfl ?_
          refine jr_cv1 (mc' := 0) (ms' := 0) rfl jm_Rdr_refuse_n jm_Rdr_refuse_f rfl rfl rfl rfl rfl rfl rfl (Nat.zero_le _) (Nat.zero_le _) ?_
          refine ev_refuse (B := B) (sz := sz) (t := t) z2 (fun h1 g1 => ?_)
          refine jr_zret rfl rfl rfl (Nat.zero_le _) (Nat.zero_le _) ?_
          have hwh := @jT_wh_iff (jT_K B sz t)
          have f4 := jn_lt (show nI (jT_K B sz t) < nI 100 from c4) (by omega) (by decide)
          have f18 : jT_K B sz t ≠ 40 := fun y => c18 (by rw [y]; rfl)
          have f32 : jT_K B sz t ≠ 2 := fun y => c32 (by rw [y]; rfl)
          have f37 : jT_K B sz t ≠ 40 := fun y => c37 (by rw [y]; rfl)
          refine k _ _ (Or.inr ⟨rfl, _, _, g1.2.2.2.1, g1.2.2.2.2, ⟨jR_12 _, jT_p_le⟩, jZ_F_ft g1, ?_⟩)
          rw [g1.1 25 ρ (by decide)]
          exact jTB_r b1 b2 (Nat.le_refl _) (fun w hw hw2 => by omega)
        · refine jr_iload rfl rfl ?_
          refine jr_if_eq rfl (fun _ => ?_) (fun z => absurd (by decide) z)
          refine jr_aload rfl rfl ?_
          refine jr_getM rfl rfl rfl rfl hM ?_
          refine jr_getI rfl rfl ?_
          refine jr_ic rfl ?_
          rw [z5]
          refine jr_icmp_ge rfl (fun c48 => ?_) (fun c48 => ?_)
          · refine jr_aload rfl rfl ?_
            refine jr_ic rfl ?_
            refine jr_cv1 (mc' := 0) (ms' := 0) rfl jm_Rdr_refuse_n jm_Rdr_refuse_f rfl rfl rfl rfl rfl rfl rfl (Nat.zero_le _) (Nat.zero_le _) ?_
            refine ev_refuse (B := B) (sz := sz) (t := t) z2 (fun h1 g1 => ?_)
            refine jr_zret rfl rfl rfl (Nat.zero_le _) (Nat.zero_le _) ?_
            have hwh := @jT_wh_iff (jT_K B sz t)
            have f4 := jn_lt (show nI (jT_K B sz t) < nI 100 from c4) (by omega) (by decide)
            have f18 : jT_K B sz t ≠ 40 := fun y => c18 (by rw [y]; rfl)
            have f32 : jT_K B sz t ≠ 2 := fun y => c32 (by rw [y]; rfl)
            have f37 := jn_eq (show nI (jT_K B sz t) = nI 40 from c37) (by omega) (by decide)
            have f48 := jn_le (show nI 90 ≤ nI u from c48) (by decide) (by omega)
            refine k _ _ (Or.inr ⟨rfl, _, _, g1.2.2.2.1, g1.2.2.2.2, ⟨jR_12 _, jT_p_le⟩, jZ_F_ft g1, ?_⟩)
            rw [g1.1 25 ρ (by decide)]
            exact jTB_r b1 b2 (Nat.le_refl _) (fun w hw hw2 => by omega)
          · refine jr_aload rfl rfl ?_
            refine jr_getI rfl rfl ?_
            refine jr_ic rfl ?_
            rw [z6]
            refine jr_icmp_lt rfl (fun c52 => ?_) (fun c52 => ?_)
            · have f4 := jn_lt (show nI (jT_K B sz t) < nI 100 from c4) (by omega) (by decide)
              have f18 : jT_K B sz t ≠ 40 := fun y => c18 (by rw [y]; rfl)
              have f32 : jT_K B sz t ≠ 2 := fun y => c32 (by rw [y]; rfl)
              have f37 := jn_eq (show nI (jT_K B sz t) = nI 40 from c37) (by omega) (by decide)
              have f48 := jn_nle (show ¬ nI 90 ≤ nI u from c48) (by decide) (by omega)
              have f52 := jn_lt (show nI v < nI 30 from c52) (by omega) (by decide)
              obtain ⟨m, rfl⟩ : ∃ m, n = m + 1 := ⟨n - 1, by omega⟩
              exact lp_ub (hsub m rfl) z hin hbd (by omega) (by omega) (by omega) k
            · refine jr_aload rfl rfl ?_
              refine jr_ic rfl ?_
              refine jr_cv1 (mc' := 0) (ms' := 0) rfl jm_Rdr_refuse_n jm_Rdr_refuse_f rfl rfl rfl rfl rfl rfl rfl (Nat.zero_le _) (Nat.zero_le _) ?_
              refine ev_refuse (B := B) (sz := sz) (t := t) z2 (fun h1 g1 => ?_)
              refine jr_zret rfl rfl rfl (Nat.zero_le _) (Nat.zero_le _) ?_
              have hwh := @jT_wh_iff (jT_K B sz t)
              have f4 := jn_lt (show nI (jT_K B sz t) < nI 100 from c4) (by omega) (by decide)
              have f18 : jT_K B sz t ≠ 40 := fun y => c18 (by rw [y]; rfl)
              have f32 : jT_K B sz t ≠ 2 := fun y => c32 (by rw [y]; rfl)
              have f37 := jn_eq (show nI (jT_K B sz t) = nI 40 from c37) (by omega) (by decide)
              have f48 := jn_nle (show ¬ nI 90 ≤ nI u from c48) (by decide) (by omega)
              have f52 := jn_nlt (show ¬ nI v < nI 30 from c52) (by omega) (by decide)
              refine k _ _ (Or.inr ⟨rfl, _, _, g1.2.2.2.1, g1.2.2.2.2, ⟨jR_12 _, jT_p_le⟩, jZ_F_ft g1, ?_⟩)
              rw [g1.1 25 ρ (by decide)]
              exact jTB_r b1 b2 (Nat.le_refl _) (fun w hw hw2 => by omega)
    · refine jr_iload rfl rfl ?_
      refine jr_ic rfl ?_
      refine jr_icmp_le rfl (fun c21 => ?_) (fun c21 => ?_)
      · refine jr_ic rfl ?_
        refine jr_ist3 rfl rfl ?_
        refine jr_iload rfl rfl ?_
        refine jr_if_ne rfl (fun z => absurd (by decide) z) (fun _ => ?_)
        refine jr_aload rfl rfl ?_
        refine jr_getR rfl rfl rfl rfl (Or.inl rfl) ?_
        refine jr_getI rfl rfl ?_
        refine jr_ic rfl ?_
        rw [hk]
        refine jr_icmp_eq rfl (fun c32 => ?_) (fun c32 => ?_)
        · refine jr_iload rfl rfl ?_
          refine jr_if_eq rfl (fun _ => ?_) (fun z => absurd (by decide) z)
          refine jr_aload rfl rfl ?_
          refine jr_getM rfl rfl rfl rfl hM ?_
          refine jr_getI rfl rfl ?_
          refine jr_ic rfl ?_
          rw [z5]
          refine jr_icmp_ge rfl (fun c48 => ?_) (fun c48 => ?_)
          · refine jr_aload rfl rfl ?_
            refine jr_ic rfl ?_
            refine jr_cv1 (mc' := 0) (ms' := 0) rfl jm_Rdr_refuse_n jm_Rdr_refuse_f rfl rfl rfl rfl rfl rfl rfl (Nat.zero_le _) (Nat.zero_le _) ?_
            refine ev_refuse (B := B) (sz := sz) (t := t) z2 (fun h1 g1 => ?_)
            refine jr_zret rfl rfl rfl (Nat.zero_le _) (Nat.zero_le _) ?_
            have hwh := @jT_wh_iff (jT_K B sz t)
            have f4 := jn_lt (show nI (jT_K B sz t) < nI 100 from c4) (by omega) (by decide)
            have f18 := jn_eq (show nI (jT_K B sz t) = nI 40 from c18) (by omega) (by decide)
            have f21 := jn_le (show nI i ≤ nI 6 from c21) (by omega) (by decide)
            have f32 := jn_eq (show nI (jT_K B sz t) = nI 2 from c32) (by omega) (by decide)
            have f48 := jn_le (show nI 90 ≤ nI u from c48) (by decide) (by omega)
            refine k _ _ (Or.inr ⟨rfl, _, _, g1.2.2.2.1, g1.2.2.2.2, ⟨jR_12 _, jT_p_le⟩, jZ_F_ft g1, ?_⟩)
            rw [g1.1 25 ρ (by decide)]
            exact jTB_r b1 b2 (Nat.le_refl _) (fun w hw hw2 => by omega)
          · refine jr_aload rfl rfl ?_
            refine jr_getI rfl rfl ?_
            refine jr_ic rfl ?_
            rw [z6]
            refine jr_icmp_lt rfl (fun c52 => ?_) (fun c52 => ?_)
            · have f4 := jn_lt (show nI (jT_K B sz t) < nI 100 from c4) (by omega) (by decide)
              have f18 := jn_eq (show nI (jT_K B sz t) = nI 40 from c18) (by omega) (by decide)
              have f21 := jn_le (show nI i ≤ nI 6 from c21) (by omega) (by decide)
              have f32 := jn_eq (show nI (jT_K B sz t) = nI 2 from c32) (by omega) (by decide)
              have f48 := jn_nle (show ¬ nI 90 ≤ nI u from c48) (by decide) (by omega)
              have f52 := jn_lt (show nI v < nI 30 from c52) (by omega) (by decide)
              exact lp_un z hin hbd (by omega) (by omega) (by omega) k
            · refine jr_aload rfl rfl ?_
              refine jr_ic rfl ?_
              refine jr_cv1 (mc' := 0) (ms' := 0) rfl jm_Rdr_refuse_n jm_Rdr_refuse_f rfl rfl rfl rfl rfl rfl rfl (Nat.zero_le _) (Nat.zero_le _) ?_
              refine ev_refuse (B := B) (sz := sz) (t := t) z2 (fun h1 g1 => ?_)
              refine jr_zret rfl rfl rfl (Nat.zero_le _) (Nat.zero_le _) ?_
              have hwh := @jT_wh_iff (jT_K B sz t)
              have f4 := jn_lt (show nI (jT_K B sz t) < nI 100 from c4) (by omega) (by decide)
              have f18 := jn_eq (show nI (jT_K B sz t) = nI 40 from c18) (by omega) (by decide)
              have f21 := jn_le (show nI i ≤ nI 6 from c21) (by omega) (by decide)
              have f32 := jn_eq (show nI (jT_K B sz t) = nI 2 from c32) (by omega) (by decide)
              have f48 := jn_nle (show ¬ nI 90 ≤ nI u from c48) (by decide) (by omega)
              have f52 := jn_nlt (show ¬ nI v < nI 30 from c52) (by omega) (by decide)
              refine k _ _ (Or.inr ⟨rfl, _, _, g1.2.2.2.1, g1.2.2.2.2, ⟨jR_12 _, jT_p_le⟩, jZ_F_ft g1, ?_⟩)
              rw [g1.1 25 ρ (by decide)]
              exact jTB_r b1 b2 (Nat.le_refl _) (fun w hw hw2 => by omega)
        · refine jr_aload rfl rfl ?_
          refine jr_getR rfl rfl rfl rfl (Or.inl rfl) ?_
          refine jr_getI rfl rfl ?_
          refine jr_ic rfl ?_
          rw [hk]
          refine jr_icmp_ne rfl (fun c37 => ?_) (fun c37 => ?_)
          · refine jr_aload rfl rfl ?_
            refine jr_ic rfl ?_
            refine jr_cv1 (mc' := 0) (ms' := 0) rfl jm_Rdr_refuse_n jm_Rdr_refuse_f rfl rfl rfl rfl rfl rfl rfl (Nat.zero_le _) (Nat.zero_le _) ?_
            refine ev_refuse (B := B) (sz := sz) (t := t) z2 (fun h1 g1 => ?_)
            refine jr_zret rfl rfl rfl (Nat.zero_le _) (Nat.zero_le _) ?_
            have hwh := @jT_wh_iff (jT_K B sz t)
            have f4 := jn_lt (show nI (jT_K B sz t) < nI 100 from c4) (by omega) (by decide)
            have f18 := jn_eq (show nI (jT_K B sz t) = nI 40 from c18) (by omega) (by decide)
            have f21 := jn_le (show nI i ≤ nI 6 from c21) (by omega) (by decide)
            have f32 : jT_K B sz t ≠ 2 := fun y => c32 (by rw [y]; rfl)
            have f37 : jT_K B sz t ≠ 40 := fun y => c37 (by rw [y]; rfl)
            refine k _ _ (Or.inr ⟨rfl, _, _, g1.2.2.2.1, g1.2.2.2.2, ⟨jR_12 _, jT_p_le⟩, jZ_F_ft g1, ?_⟩)
            rw [g1.1 25 ρ (by decide)]
            exact jTB_r b1 b2 (Nat.le_refl _) (fun w hw hw2 => by omega)
          · refine jr_iload rfl rfl ?_
            refine jr_if_eq rfl (fun _ => ?_) (fun z => absurd (by decide) z)
            refine jr_aload rfl rfl ?_
            refine jr_getM rfl rfl rfl rfl hM ?_
            refine jr_getI rfl rfl ?_
            refine jr_ic rfl ?_
            rw [z5]
            refine jr_icmp_ge rfl (fun c48 => ?_) (fun c48 => ?_)
            · refine jr_aload rfl rfl ?_
              refine jr_ic rfl ?_
              refine jr_cv1 (mc' := 0) (ms' := 0) rfl jm_Rdr_refuse_n jm_Rdr_refuse_f rfl rfl rfl rfl rfl rfl rfl (Nat.zero_le _) (Nat.zero_le _) ?_
              refine ev_refuse (B := B) (sz := sz) (t := t) z2 (fun h1 g1 => ?_)
              refine jr_zret rfl rfl rfl (Nat.zero_le _) (Nat.zero_le _) ?_
              have hwh := @jT_wh_iff (jT_K B sz t)
              have f4 := jn_lt (show nI (jT_K B sz t) < nI 100 from c4) (by omega) (by decide)
              have f18 := jn_eq (show nI (jT_K B sz t) = nI 40 from c18) (by omega) (by decide)
              have f21 := jn_le (show nI i ≤ nI 6 from c21) (by omega) (by decide)
              have f32 : jT_K B sz t ≠ 2 := fun y => c32 (by rw [y]; rfl)
              have f37 := jn_eq (show nI (jT_K B sz t) = nI 40 from c37) (by omega) (by decide)
              have f48 := jn_le (show nI 90 ≤ nI u from c48) (by decide) (by omega)
              refine k _ _ (Or.inr ⟨rfl, _, _, g1.2.2.2.1, g1.2.2.2.2, ⟨jR_12 _, jT_p_le⟩, jZ_F_ft g1, ?_⟩)
              rw [g1.1 25 ρ (by decide)]
              exact jTB_r b1 b2 (Nat.le_refl _) (fun w hw hw2 => by omega)
            · refine jr_aload rfl rfl ?_
              refine jr_getI rfl rfl ?_
              refine jr_ic rfl ?_
              rw [z6]
              refine jr_icmp_lt rfl (fun c52 => ?_) (fun c52 => ?_)
              · have f4 := jn_lt (show nI (jT_K B sz t) < nI 100 from c4) (by omega) (by decide)
                have f18 := jn_eq (show nI (jT_K B sz t) = nI 40 from c18) (by omega) (by decide)
                have f21 := jn_le (show nI i ≤ nI 6 from c21) (by omega) (by decide)
                have f32 : jT_K B sz t ≠ 2 := fun y => c32 (by rw [y]; rfl)
                have f37 := jn_eq (show nI (jT_K B sz t) = nI 40 from c37) (by omega) (by decide)
                have f48 := jn_nle (show ¬ nI 90 ≤ nI u from c48) (by decide) (by omega)
                have f52 := jn_lt (show nI v < nI 30 from c52) (by omega) (by decide)
                obtain ⟨m, rfl⟩ : ∃ m, n = m + 1 := ⟨n - 1, by omega⟩
                exact lp_ub (hsub m rfl) z hin hbd (by omega) (by omega) (by omega) k
              · refine jr_aload rfl rfl ?_
                refine jr_ic rfl ?_
                refine jr_cv1 (mc' := 0) (ms' := 0) rfl jm_Rdr_refuse_n jm_Rdr_refuse_f rfl rfl rfl rfl rfl rfl rfl (Nat.zero_le _) (Nat.zero_le _) ?_
                refine ev_refuse (B := B) (sz := sz) (t := t) z2 (fun h1 g1 => ?_)
                refine jr_zret rfl rfl rfl (Nat.zero_le _) (Nat.zero_le _) ?_
                have hwh := @jT_wh_iff (jT_K B sz t)
                have f4 := jn_lt (show nI (jT_K B sz t) < nI 100 from c4) (by omega) (by decide)
                have f18 := jn_eq (show nI (jT_K B sz t) = nI 40 from c18) (by omega) (by decide)
                have f21 := jn_le (show nI i ≤ nI 6 from c21) (by omega) (by decide)
                have f32 : jT_K B sz t ≠ 2 := fun y => c32 (by rw [y]; rfl)
                have f37 := jn_eq (show nI (jT_K B sz t) = nI 40 from c37) (by omega) (by decide)
                have f48 := jn_nle (show ¬ nI 90 ≤ nI u from c48) (by decide) (by omega)
                have f52 := jn_nlt (show ¬ nI v < nI 30 from c52) (by omega) (by decide)
                refine k _ _ (Or.inr ⟨rfl, _, _, g1.2.2.2.1, g1.2.2.2.2, ⟨jR_12 _, jT_p_le⟩, jZ_F_ft g1, ?_⟩)
                rw [g1.1 25 ρ (by decide)]
                exact jTB_r b1 b2 (Nat.le_refl _) (fun w hw hw2 => by omega)
      · refine jr_ic rfl ?_
        refine jr_goto rfl ?_
        refine jr_ist3 rfl rfl ?_
        refine jr_iload rfl rfl ?_
        refine jr_if_ne rfl (fun z => absurd (by decide) z) (fun _ => ?_)
        refine jr_aload rfl rfl ?_
        refine jr_getR rfl rfl rfl rfl (Or.inl rfl) ?_
        refine jr_getI rfl rfl ?_
        refine jr_ic rfl ?_
        rw [hk]
        refine jr_icmp_eq rfl (fun c32 => ?_) (fun c32 => ?_)
        · refine jr_iload rfl rfl ?_
          refine jr_if_eq rfl (fun z => absurd z (by decide)) (fun _ => ?_)
          refine jr_aload rfl rfl ?_
          refine jr_ic rfl ?_
          refine jr_cv1 (mc' := 0) (ms' := 0) rfl jm_Rdr_refuse_n jm_Rdr_refuse_f rfl rfl rfl rfl rfl rfl rfl (Nat.zero_le _) (Nat.zero_le _) ?_
          refine ev_refuse (B := B) (sz := sz) (t := t) z2 (fun h1 g1 => ?_)
          refine jr_zret rfl rfl rfl (Nat.zero_le _) (Nat.zero_le _) ?_
          have hwh := @jT_wh_iff (jT_K B sz t)
          have f4 := jn_lt (show nI (jT_K B sz t) < nI 100 from c4) (by omega) (by decide)
          have f18 := jn_eq (show nI (jT_K B sz t) = nI 40 from c18) (by omega) (by decide)
          have f21 := jn_nle (show ¬ nI i ≤ nI 6 from c21) (by omega) (by decide)
          have f32 := jn_eq (show nI (jT_K B sz t) = nI 2 from c32) (by omega) (by decide)
          refine k _ _ (Or.inr ⟨rfl, _, _, g1.2.2.2.1, g1.2.2.2.2, ⟨jR_12 _, jT_p_le⟩, jZ_F_ft g1, ?_⟩)
          rw [g1.1 25 ρ (by decide)]
          exact jTB_r b1 b2 (Nat.le_refl _) (fun w hw hw2 => by omega)
        · refine jr_aload rfl rfl ?_
          refine jr_getR rfl rfl rfl rfl (Or.inl rfl) ?_
          refine jr_getI rfl rfl ?_
          refine jr_ic rfl ?_
          rw [hk]
          refine jr_icmp_ne rfl (fun c37 => ?_) (fun c37 => ?_)
          · refine jr_aload rfl rfl ?_
            refine jr_ic rfl ?_
            refine jr_cv1 (mc' := 0) (ms' := 0) rfl jm_Rdr_refuse_n jm_Rdr_refuse_f rfl rfl rfl rfl rfl rfl rfl (Nat.zero_le _) (Nat.zero_le _) ?_
            refine ev_refuse (B := B) (sz := sz) (t := t) z2 (fun h1 g1 => ?_)
            refine jr_zret rfl rfl rfl (Nat.zero_le _) (Nat.zero_le _) ?_
            have hwh := @jT_wh_iff (jT_K B sz t)
            have f4 := jn_lt (show nI (jT_K B sz t) < nI 100 from c4) (by omega) (by decide)
            have f18 := jn_eq (show nI (jT_K B sz t) = nI 40 from c18) (by omega) (by decide)
            have f21 := jn_nle (show ¬ nI i ≤ nI 6 from c21) (by omega) (by decide)
            have f32 : jT_K B sz t ≠ 2 := fun y => c32 (by rw [y]; rfl)
            have f37 : jT_K B sz t ≠ 40 := fun y => c37 (by rw [y]; rfl)
            refine k _ _ (Or.inr ⟨rfl, _, _, g1.2.2.2.1, g1.2.2.2.2, ⟨jR_12 _, jT_p_le⟩, jZ_F_ft g1, ?_⟩)
            rw [g1.1 25 ρ (by decide)]
            exact jTB_r b1 b2 (Nat.le_refl _) (fun w hw hw2 => by omega)
          · refine jr_iload rfl rfl ?_
            refine jr_if_eq rfl (fun z => absurd z (by decide)) (fun _ => ?_)
            refine jr_aload rfl rfl ?_
            refine jr_ic rfl ?_
            refine jr_cv1 (mc' := 0) (ms' := 0) rfl jm_Rdr_refuse_n jm_Rdr_refuse_f rfl rfl rfl rfl rfl rfl rfl (Nat.zero_le _) (Nat.zero_le _) ?_
            refine ev_refuse (B := B) (sz := sz) (t := t) z2 (fun h1 g1 => ?_)
            refine jr_zret rfl rfl rfl (Nat.zero_le _) (Nat.zero_le _) ?_
            have hwh := @jT_wh_iff (jT_K B sz t)
            have f4 := jn_lt (show nI (jT_K B sz t) < nI 100 from c4) (by omega) (by decide)
            have f18 := jn_eq (show nI (jT_K B sz t) = nI 40 from c18) (by omega) (by decide)
            have f21 := jn_nle (show ¬ nI i ≤ nI 6 from c21) (by omega) (by decide)
            have f32 : jT_K B sz t ≠ 2 := fun y => c32 (by rw [y]; rfl)
            have f37 := jn_eq (show nI (jT_K B sz t) = nI 40 from c37) (by omega) (by decide)
            refine k _ _ (Or.inr ⟨rfl, _, _, g1.2.2.2.1, g1.2.2.2.2, ⟨jR_12 _, jT_p_le⟩, jZ_F_ft g1, ?_⟩)
            rw [g1.1 25 ρ (by decide)]
            exact jTB_r b1 b2 (Nat.le_refl _) (fun w hw hw2 => by omega)
  · refine jr_aload rfl rfl ?_
    refine jr_getR rfl rfl rfl rfl (Or.inl rfl) ?_
    refine jr_getI rfl rfl ?_
    refine jr_ic rfl ?_
    rw [hk]
    refine jr_icmp_gt rfl (fun c9 => ?_) (fun c9 => ?_)
    · refine jr_ic rfl ?_
      refine jr_ist2 rfl rfl ?_
      refine jr_aload rfl rfl ?_
      refine jr_getR rfl rfl rfl rfl (Or.inl rfl) ?_
      refine jr_getI rfl rfl ?_
      refine jr_ic rfl ?_
      rw [hk]
      refine jr_icmp_ne rfl (fun c18 => ?_) (fun c18 => ?_)
      · refine jr_ic rfl ?_
        refine jr_ist3 rfl rfl ?_
        refine jr_iload rfl rfl ?_
        refine jr_if_ne rfl (fun z => absurd (by decide) z) (fun _ => ?_)
        refine jr_aload rfl rfl ?_
        refine jr_getR rfl rfl rfl rfl (Or.inl rfl) ?_
        refine jr_getI rfl rfl ?_
        refine jr_ic rfl ?_
        rw [hk]
        refine jr_icmp_eq rfl (fun c32 => ?_) (fun c32 => ?_)
        · refine jr_iload rfl rfl ?_
          refine jr_if_eq rfl (fun _ => ?_) (fun z => absurd (by decide) z)
          refine jr_aload rfl rfl ?_
          refine jr_getM rfl rfl rfl rfl hM ?_
          refine jr_getI rfl rfl ?_
          refine jr_ic rfl ?_
          rw [z5]
          refine jr_icmp_ge rfl (fun c48 => ?_) (fun c48 => ?_)
          · refine jr_aload rfl rfl ?_
            refine jr_ic rfl ?_
            refine jr_cv1 (mc' := 0) (ms' := 0) rfl jm_Rdr_refuse_n jm_Rdr_refuse_f rfl rfl rfl rfl rfl rfl rfl (Nat.zero_le _) (Nat.zero_le _) ?_
            refine ev_refuse (B := B) (sz := sz) (t := t) z2 (fun h1 g1 => ?_)
            refine jr_zret rfl rfl rfl (Nat.zero_le _) (Nat.zero_le _) ?_
            have hwh := @jT_wh_iff (jT_K B sz t)
            have f4 := jn_nlt (show ¬ nI (jT_K B sz t) < nI 100 from c4) (by omega) (by decide)
            have f9 := jn_lt (show nI 106 < nI (jT_K B sz t) from c9) (by decide) (by omega)
            have f18 : jT_K B sz t ≠ 40 := fun y => c18 (by rw [y]; rfl)
            have f32 := jn_eq (show nI (jT_K B sz t) = nI 2 from c32) (by omega) (by decide)
            have f48 := jn_le (show nI 90 ≤ nI u from c48) (by decide) (by omega)
            refine k _ _ (Or.inr ⟨rfl, _, _, g1.2.2.2.1, g1.2.2.2.2, ⟨jR_12 _, jT_p_le⟩, jZ_F_ft g1, ?_⟩)
            rw [g1.1 25 ρ (by decide)]
            exact jTB_r b1 b2 (Nat.le_refl _) (fun w hw hw2 => by omega)
          · refine jr_aload rfl rfl ?_
            refine jr_getI rfl rfl ?_
            refine jr_ic rfl ?_
            rw [z6]
            refine jr_icmp_lt rfl (fun c52 => ?_) (fun c52 => ?_)
            · have f4 := jn_nlt (show ¬ nI (jT_K B sz t) < nI 100 from c4) (by omega) (by decide)
              have f9 := jn_lt (show nI 106 < nI (jT_K B sz t) from c9) (by decide) (by omega)
              have f18 : jT_K B sz t ≠ 40 := fun y => c18 (by rw [y]; rfl)
              have f32 := jn_eq (show nI (jT_K B sz t) = nI 2 from c32) (by omega) (by decide)
              have f48 := jn_nle (show ¬ nI 90 ≤ nI u from c48) (by decide) (by omega)
              have f52 := jn_lt (show nI v < nI 30 from c52) (by omega) (by decide)
              exact lp_un z hin hbd (by omega) (by omega) (by omega) k
            · refine jr_aload rfl rfl ?_
              refine jr_ic rfl ?_
              refine jr_cv1 (mc' := 0) (ms' := 0) rfl jm_Rdr_refuse_n jm_Rdr_refuse_f rfl rfl rfl rfl rfl rfl rfl (Nat.zero_le _) (Nat.zero_le _) ?_
              refine ev_refuse (B := B) (sz := sz) (t := t) z2 (fun h1 g1 => ?_)
              refine jr_zret rfl rfl rfl (Nat.zero_le _) (Nat.zero_le _) ?_
              have hwh := @jT_wh_iff (jT_K B sz t)
              have f4 := jn_nlt (show ¬ nI (jT_K B sz t) < nI 100 from c4) (by omega) (by decide)
              have f9 := jn_lt (show nI 106 < nI (jT_K B sz t) from c9) (by decide) (by omega)
              have f18 : jT_K B sz t ≠ 40 := fun y => c18 (by rw [y]; rfl)
              have f32 := jn_eq (show nI (jT_K B sz t) = nI 2 from c32) (by omega) (by decide)
              have f48 := jn_nle (show ¬ nI 90 ≤ nI u from c48) (by decide) (by omega)
              have f52 := jn_nlt (show ¬ nI v < nI 30 from c52) (by omega) (by decide)
              refine k _ _ (Or.inr ⟨rfl, _, _, g1.2.2.2.1, g1.2.2.2.2, ⟨jR_12 _, jT_p_le⟩, jZ_F_ft g1, ?_⟩)
              rw [g1.1 25 ρ (by decide)]
              exact jTB_r b1 b2 (Nat.le_refl _) (fun w hw hw2 => by omega)
        · refine jr_aload rfl rfl ?_
          refine jr_getR rfl rfl rfl rfl (Or.inl rfl) ?_
          refine jr_getI rfl rfl ?_
          refine jr_ic rfl ?_
          rw [hk]
          refine jr_icmp_ne rfl (fun c37 => ?_) (fun c37 => ?_)
          · refine jr_aload rfl rfl ?_
            refine jr_ic rfl ?_
            refine jr_cv1 (mc' := 0) (ms' := 0) rfl jm_Rdr_refuse_n jm_Rdr_refuse_f rfl rfl rfl rfl rfl rfl rfl (Nat.zero_le _) (Nat.zero_le _) ?_
            refine ev_refuse (B := B) (sz := sz) (t := t) z2 (fun h1 g1 => ?_)
            refine jr_zret rfl rfl rfl (Nat.zero_le _) (Nat.zero_le _) ?_
            have hwh := @jT_wh_iff (jT_K B sz t)
            have f4 := jn_nlt (show ¬ nI (jT_K B sz t) < nI 100 from c4) (by omega) (by decide)
            have f9 := jn_lt (show nI 106 < nI (jT_K B sz t) from c9) (by decide) (by omega)
            have f18 : jT_K B sz t ≠ 40 := fun y => c18 (by rw [y]; rfl)
            have f32 : jT_K B sz t ≠ 2 := fun y => c32 (by rw [y]; rfl)
            have f37 : jT_K B sz t ≠ 40 := fun y => c37 (by rw [y]; rfl)
            refine k _ _ (Or.inr ⟨rfl, _, _, g1.2.2.2.1, g1.2.2.2.2, ⟨jR_12 _, jT_p_le⟩, jZ_F_ft g1, ?_⟩)
            rw [g1.1 25 ρ (by decide)]
            exact jTB_r b1 b2 (Nat.le_refl _) (fun w hw hw2 => by omega)
          · refine jr_iload rfl rfl ?_
            refine jr_if_eq rfl (fun _ => ?_) (fun z => absurd (by decide) z)
            refine jr_aload rfl rfl ?_
            refine jr_getM rfl rfl rfl rfl hM ?_
            refine jr_getI rfl rfl ?_
            refine jr_ic rfl ?_
            rw [z5]
            refine jr_icmp_ge rfl (fun c48 => ?_) (fun c48 => ?_)
            · refine jr_aload rfl rfl ?_
              refine jr_ic rfl ?_
              refine jr_cv1 (mc' := 0) (ms' := 0) rfl jm_Rdr_refuse_n jm_Rdr_refuse_f rfl rfl rfl rfl rfl rfl rfl (Nat.zero_le _) (Nat.zero_le _) ?_
              refine ev_refuse (B := B) (sz := sz) (t := t) z2 (fun h1 g1 => ?_)
              refine jr_zret rfl rfl rfl (Nat.zero_le _) (Nat.zero_le _) ?_
              have hwh := @jT_wh_iff (jT_K B sz t)
              have f4 := jn_nlt (show ¬ nI (jT_K B sz t) < nI 100 from c4) (by omega) (by decide)
              have f9 := jn_lt (show nI 106 < nI (jT_K B sz t) from c9) (by decide) (by omega)
              have f18 : jT_K B sz t ≠ 40 := fun y => c18 (by rw [y]; rfl)
              have f32 : jT_K B sz t ≠ 2 := fun y => c32 (by rw [y]; rfl)
              have f37 := jn_eq (show nI (jT_K B sz t) = nI 40 from c37) (by omega) (by decide)
              have f48 := jn_le (show nI 90 ≤ nI u from c48) (by decide) (by omega)
              refine k _ _ (Or.inr ⟨rfl, _, _, g1.2.2.2.1, g1.2.2.2.2, ⟨jR_12 _, jT_p_le⟩, jZ_F_ft g1, ?_⟩)
              rw [g1.1 25 ρ (by decide)]
              exact jTB_r b1 b2 (Nat.le_refl _) (fun w hw hw2 => by omega)
            · refine jr_aload rfl rfl ?_
              refine jr_getI rfl rfl ?_
              refine jr_ic rfl ?_
              rw [z6]
              refine jr_icmp_lt rfl (fun c52 => ?_) (fun c52 => ?_)
              · have f4 := jn_nlt (show ¬ nI (jT_K B sz t) < nI 100 from c4) (by omega) (by decide)
                have f9 := jn_lt (show nI 106 < nI (jT_K B sz t) from c9) (by decide) (by omega)
                have f18 : jT_K B sz t ≠ 40 := fun y => c18 (by rw [y]; rfl)
                have f32 : jT_K B sz t ≠ 2 := fun y => c32 (by rw [y]; rfl)
                have f37 := jn_eq (show nI (jT_K B sz t) = nI 40 from c37) (by omega) (by decide)
                have f48 := jn_nle (show ¬ nI 90 ≤ nI u from c48) (by decide) (by omega)
                have f52 := jn_lt (show nI v < nI 30 from c52) (by omega) (by decide)
                obtain ⟨m, rfl⟩ : ∃ m, n = m + 1 := ⟨n - 1, by omega⟩
                exact lp_ub (hsub m rfl) z hin hbd (by omega) (by omega) (by omega) k
              · refine jr_aload rfl rfl ?_
                refine jr_ic rfl ?_
                refine jr_cv1 (mc' := 0) (ms' := 0) rfl jm_Rdr_refuse_n jm_Rdr_refuse_f rfl rfl rfl rfl rfl rfl rfl (Nat.zero_le _) (Nat.zero_le _) ?_
                refine ev_refuse (B := B) (sz := sz) (t := t) z2 (fun h1 g1 => ?_)
                refine jr_zret rfl rfl rfl (Nat.zero_le _) (Nat.zero_le _) ?_
                have hwh := @jT_wh_iff (jT_K B sz t)
                have f4 := jn_nlt (show ¬ nI (jT_K B sz t) < nI 100 from c4) (by omega) (by decide)
                have f9 := jn_lt (show nI 106 < nI (jT_K B sz t) from c9) (by decide) (by omega)
                have f18 : jT_K B sz t ≠ 40 := fun y => c18 (by rw [y]; rfl)
                have f32 : jT_K B sz t ≠ 2 := fun y => c32 (by rw [y]; rfl)
                have f37 := jn_eq (show nI (jT_K B sz t) = nI 40 from c37) (by omega) (by decide)
                have f48 := jn_nle (show ¬ nI 90 ≤ nI u from c48) (by decide) (by omega)
                have f52 := jn_nlt (show ¬ nI v < nI 30 from c52) (by omega) (by decide)
                refine k _ _ (Or.inr ⟨rfl, _, _, g1.2.2.2.1, g1.2.2.2.2, ⟨jR_12 _, jT_p_le⟩, jZ_F_ft g1, ?_⟩)
                rw [g1.1 25 ρ (by decide)]
                exact jTB_r b1 b2 (Nat.le_refl _) (fun w hw hw2 => by omega)
      · refine jr_iload rfl rfl ?_
        refine jr_ic rfl ?_
        refine jr_icmp_le rfl (fun c21 => ?_) (fun c21 => ?_)
        · refine jr_ic rfl ?_
          refine jr_ist3 rfl rfl ?_
          refine jr_iload rfl rfl ?_
          refine jr_if_ne rfl (fun z => absurd (by decide) z) (fun _ => ?_)
          refine jr_aload rfl rfl ?_
          refine jr_getR rfl rfl rfl rfl (Or.inl rfl) ?_
          refine jr_getI rfl rfl ?_
          refine jr_ic rfl ?_
          rw [hk]
          refine jr_icmp_eq rfl (fun c32 => ?_) (fun c32 => ?_)
          · refine jr_iload rfl rfl ?_
            refine jr_if_eq rfl (fun _ => ?_) (fun z => absurd (by decide) z)
            refine jr_aload rfl rfl ?_
            refine jr_getM rfl rfl rfl rfl hM ?_
            refine jr_getI rfl rfl ?_
            refine jr_ic rfl ?_
            rw [z5]
            refine jr_icmp_ge rfl (fun c48 => ?_) (fun c48 => ?_)
            · refine jr_aload rfl rfl ?_
              refine jr_ic rfl ?_
              refine jr_cv1 (mc' := 0) (ms' := 0) rfl jm_Rdr_refuse_n jm_Rdr_refuse_f rfl rfl rfl rfl rfl rfl rfl (Nat.zero_le _) (Nat.zero_le _) ?_
              refine ev_refuse (B := B) (sz := sz) (t := t) z2 (fun h1 g1 => ?_)
              refine jr_zret rfl rfl rfl (Nat.zero_le _) (Nat.zero_le _) ?_
              have hwh := @jT_wh_iff (jT_K B sz t)
              have f4 := jn_nlt (show ¬ nI (jT_K B sz t) < nI 100 from c4) (by omega) (by decide)
              have f9 := jn_lt (show nI 106 < nI (jT_K B sz t) from c9) (by decide) (by omega)
              have f18 := jn_eq (show nI (jT_K B sz t) = nI 40 from c18) (by omega) (by decide)
              have f21 := jn_le (show nI i ≤ nI 6 from c21) (by omega) (by decide)
              have f32 := jn_eq (show nI (jT_K B sz t) = nI 2 from c32) (by omega) (by decide)
              have f48 := jn_le (show nI 90 ≤ nI u from c48) (by decide) (by omega)
              refine k _ _ (Or.inr ⟨rfl, _, _, g1.2.2.2.1, g1.2.2.2.2, ⟨jR_12 _, jT_p_le⟩, jZ_F_ft g1, ?_⟩)
              rw [g1.1 25 ρ (by decide)]
              exact jTB_r b1 b2 (Nat.le_refl _) (fun w hw hw2 => by omega)
            · refine jr_aload rfl rfl ?_
              refine jr_getI rfl rfl ?_
              refine jr_ic rfl ?_
              rw [z6]
              refine jr_icmp_lt rfl (fun c52 => ?_) (fun c52 => ?_)
              · have f4 := jn_nlt (show ¬ nI (jT_K B sz t) < nI 100 from c4) (by omega) (by decide)
                have f9 := jn_lt (show nI 106 < nI (jT_K B sz t) from c9) (by decide) (by omega)
                have f18 := jn_eq (show nI (jT_K B sz t) = nI 40 from c18) (by omega) (by decide)
                have f21 := jn_le (show nI i ≤ nI 6 from c21) (by omega) (by decide)
                have f32 := jn_eq (show nI (jT_K B sz t) = nI 2 from c32) (by omega) (by decide)
                have f48 := jn_nle (show ¬ nI 90 ≤ nI u from c48) (by decide) (by omega)
                have f52 := jn_lt (show nI v < nI 30 from c52) (by omega) (by decide)
                exact lp_un z hin hbd (by omega) (by omega) (by omega) k
              · refine jr_aload rfl rfl ?_
                refine jr_ic rfl ?_
                refine jr_cv1 (mc' := 0) (ms' := 0) rfl jm_Rdr_refuse_n jm_Rdr_refuse_f rfl rfl rfl rfl rfl rfl rfl (Nat.zero_le _) (Nat.zero_le _) ?_
                refine ev_refuse (B := B) (sz := sz) (t := t) z2 (fun h1 g1 => ?_)
                refine jr_zret rfl rfl rfl (Nat.zero_le _) (Nat.zero_le _) ?_
                have hwh := @jT_wh_iff (jT_K B sz t)
                have f4 := jn_nlt (show ¬ nI (jT_K B sz t) < nI 100 from c4) (by omega) (by decide)
                have f9 := jn_lt (show nI 106 < nI (jT_K B sz t) from c9) (by decide) (by omega)
                have f18 := jn_eq (show nI (jT_K B sz t) = nI 40 from c18) (by omega) (by decide)
                have f21 := jn_le (show nI i ≤ nI 6 from c21) (by omega) (by decide)
                have f32 := jn_eq (show nI (jT_K B sz t) = nI 2 from c32) (by omega) (by decide)
                have f48 := jn_nle (show ¬ nI 90 ≤ nI u from c48) (by decide) (by omega)
                have f52 := jn_nlt (show ¬ nI v < nI 30 from c52) (by omega) (by decide)
                refine k _ _ (Or.inr ⟨rfl, _, _, g1.2.2.2.1, g1.2.2.2.2, ⟨jR_12 _, jT_p_le⟩, jZ_F_ft g1, ?_⟩)
                rw [g1.1 25 ρ (by decide)]
                exact jTB_r b1 b2 (Nat.le_refl _) (fun w hw hw2 => by omega)
          · refine jr_aload rfl rfl ?_
            refine jr_getR rfl rfl rfl rfl (Or.inl rfl) ?_
            refine jr_getI rfl rfl ?_
            refine jr_ic rfl ?_
            rw [hk]
            refine jr_icmp_ne rfl (fun c37 => ?_) (fun c37 => ?_)
            · refine jr_aload rfl rfl ?_
              refine jr_ic rfl ?_
              refine jr_cv1 (mc' := 0) (ms' := 0) rfl jm_Rdr_refuse_n jm_Rdr_refuse_f rfl rfl rfl rfl rfl rfl rfl (Nat.zero_le _) (Nat.zero_le _) ?_
              refine ev_refuse (B := B) (sz := sz) (t := t) z2 (fun h1 g1 => ?_)
              refine jr_zret rfl rfl rfl (Nat.zero_le _) (Nat.zero_le _) ?_
              have hwh := @jT_wh_iff (jT_K B sz t)
              have f4 := jn_nlt (show ¬ nI (jT_K B sz t) < nI 100 from c4) (by omega) (by decide)
              have f9 := jn_lt (show nI 106 < nI (jT_K B sz t) from c9) (by decide) (by omega)
              have f18 := jn_eq (show nI (jT_K B sz t) = nI 40 from c18) (by omega) (by decide)
              have f21 := jn_le (show nI i ≤ nI 6 from c21) (by omega) (by decide)
              have f32 : jT_K B sz t ≠ 2 := fun y => c32 (by rw [y]; rfl)
              have f37 : jT_K B sz t ≠ 40 := fun y => c37 (by rw [y]; rfl)
              refine k _ _ (Or.inr ⟨rfl, _, _, g1.2.2.2.1, g1.2.2.2.2, ⟨jR_12 _, jT_p_le⟩, jZ_F_ft g1, ?_⟩)
              rw [g1.1 25 ρ (by decide)]
              exact jTB_r b1 b2 (Nat.le_refl _) (fun w hw hw2 => by omega)
            · refine jr_iload rfl rfl ?_
              refine jr_if_eq rfl (fun _ => ?_) (fun z => absurd (by decide) z)
              refine jr_aload rfl rfl ?_
              refine jr_getM rfl rfl rfl rfl hM ?_
              refine jr_getI rfl rfl ?_
              refine jr_ic rfl ?_
              rw [z5]
              refine jr_icmp_ge rfl (fun c48 => ?_) (fun c48 => ?_)
              · refine jr_aload rfl rfl ?_
                refine jr_ic rfl ?_
                refine jr_cv1 (mc' := 0) (ms' := 0) rfl jm_Rdr_refuse_n jm_Rdr_refuse_f rfl rfl rfl rfl rfl rfl rfl (Nat.zero_le _) (Nat.zero_le _) ?_
                refine ev_refuse (B := B) (sz := sz) (t := t) z2 (fun h1 g1 => ?_)
                refine jr_zret rfl rfl rfl (Nat.zero_le _) (Nat.zero_le _) ?_
                have hwh := @jT_wh_iff (jT_K B sz t)
                have f4 := jn_nlt (show ¬ nI (jT_K B sz t) < nI 100 from c4) (by omega) (by decide)
                have f9 := jn_lt (show nI 106 < nI (jT_K B sz t) from c9) (by decide) (by omega)
                have f18 := jn_eq (show nI (jT_K B sz t) = nI 40 from c18) (by omega) (by decide)
                have f21 := jn_le (show nI i ≤ nI 6 from c21) (by omega) (by decide)
                have f32 : jT_K B sz t ≠ 2 := fun y => c32 (by rw [y]; rfl)
                have f37 := jn_eq (show nI (jT_K B sz t) = nI 40 from c37) (by omega) (by decide)
                have f48 := jn_le (show nI 90 ≤ nI u from c48) (by decide) (by omega)
                refine k _ _ (Or.inr ⟨rfl, _, _, g1.2.2.2.1, g1.2.2.2.2, ⟨jR_12 _, jT_p_le⟩, jZ_F_ft g1, ?_⟩)
                rw [g1.1 25 ρ (by decide)]
                exact jTB_r b1 b2 (Nat.le_refl _) (fun w hw hw2 => by omega)
              · refine jr_aload rfl rfl ?_
                refine jr_getI rfl rfl ?_
                refine jr_ic rfl ?_
                rw [z6]
                refine jr_icmp_lt rfl (fun c52 => ?_) (fun c52 => ?_)
                · have f4 := jn_nlt (show ¬ nI (jT_K B sz t) < nI 100 from c4) (by omega) (by decide)
                  have f9 := jn_lt (show nI 106 < nI (jT_K B sz t) from c9) (by decide) (by omega)
                  have f18 := jn_eq (show nI (jT_K B sz t) = nI 40 from c18) (by omega) (by decide)
                  have f21 := jn_le (show nI i ≤ nI 6 from c21) (by omega) (by decide)
                  have f32 : jT_K B sz t ≠ 2 := fun y => c32 (by rw [y]; rfl)
                  have f37 := jn_eq (show nI (jT_K B sz t) = nI 40 from c37) (by omega) (by decide)
                  have f48 := jn_nle (show ¬ nI 90 ≤ nI u from c48) (by decide) (by omega)
                  have f52 := jn_lt (show nI v < nI 30 from c52) (by omega) (by decide)
                  obtain ⟨m, rfl⟩ : ∃ m, n = m + 1 := ⟨n - 1, by omega⟩
                  exact lp_ub (hsub m rfl) z hin hbd (by omega) (by omega) (by omega) k
                · refine jr_aload rfl rfl ?_
                  refine jr_ic rfl ?_
                  refine jr_cv1 (mc' := 0) (ms' := 0) rfl jm_Rdr_refuse_n jm_Rdr_refuse_f rfl rfl rfl rfl rfl rfl rfl (Nat.zero_le _) (Nat.zero_le _) ?_
                  refine ev_refuse (B := B) (sz := sz) (t := t) z2 (fun h1 g1 => ?_)
                  refine jr_zret rfl rfl rfl (Nat.zero_le _) (Nat.zero_le _) ?_
                  have hwh := @jT_wh_iff (jT_K B sz t)
                  have f4 := jn_nlt (show ¬ nI (jT_K B sz t) < nI 100 from c4) (by omega) (by decide)
                  have f9 := jn_lt (show nI 106 < nI (jT_K B sz t) from c9) (by decide) (by omega)
                  have f18 := jn_eq (show nI (jT_K B sz t) = nI 40 from c18) (by omega) (by decide)
                  have f21 := jn_le (show nI i ≤ nI 6 from c21) (by omega) (by decide)
                  have f32 : jT_K B sz t ≠ 2 := fun y => c32 (by rw [y]; rfl)
                  have f37 := jn_eq (show nI (jT_K B sz t) = nI 40 from c37) (by omega) (by decide)
                  have f48 := jn_nle (show ¬ nI 90 ≤ nI u from c48) (by decide) (by omega)
                  have f52 := jn_nlt (show ¬ nI v < nI 30 from c52) (by omega) (by decide)
                  refine k _ _ (Or.inr ⟨rfl, _, _, g1.2.2.2.1, g1.2.2.2.2, ⟨jR_12 _, jT_p_le⟩, jZ_F_ft g1, ?_⟩)
                  rw [g1.1 25 ρ (by decide)]
                  exact jTB_r b1 b2 (Nat.le_refl _) (fun w hw hw2 => by omega)
        · refine jr_ic rfl ?_
          refine jr_goto rfl ?_
          refine jr_ist3 rfl rfl ?_
          refine jr_iload rfl rfl ?_
          refine jr_if_ne rfl (fun z => absurd (by decide) z) (fun _ => ?_)
          refine jr_aload rfl rfl ?_
          refine jr_getR rfl rfl rfl rfl (Or.inl rfl) ?_
          refine jr_getI rfl rfl ?_
          refine jr_ic rfl ?_
          rw [hk]
          refine jr_icmp_eq rfl (fun c32 => ?_) (fun c32 => ?_)
          · refine jr_iload rfl rfl ?_
            refine jr_if_eq rfl (fun z => absurd z (by decide)) (fun _ => ?_)
            refine jr_aload rfl rfl ?_
            refine jr_ic rfl ?_
            refine jr_cv1 (mc' := 0) (ms' := 0) rfl jm_Rdr_refuse_n jm_Rdr_refuse_f rfl rfl rfl rfl rfl rfl rfl (Nat.zero_le _) (Nat.zero_le _) ?_
            refine ev_refuse (B := B) (sz := sz) (t := t) z2 (fun h1 g1 => ?_)
            refine jr_zret rfl rfl rfl (Nat.zero_le _) (Nat.zero_le _) ?_
            have hwh := @jT_wh_iff (jT_K B sz t)
            have f4 := jn_nlt (show ¬ nI (jT_K B sz t) < nI 100 from c4) (by omega) (by decide)
            have f9 := jn_lt (show nI 106 < nI (jT_K B sz t) from c9) (by decide) (by omega)
            have f18 := jn_eq (show nI (jT_K B sz t) = nI 40 from c18) (by omega) (by decide)
            have f21 := jn_nle (show ¬ nI i ≤ nI 6 from c21) (by omega) (by decide)
            have f32 := jn_eq (show nI (jT_K B sz t) = nI 2 from c32) (by omega) (by decide)
            refine k _ _ (Or.inr ⟨rfl, _, _, g1.2.2.2.1, g1.2.2.2.2, ⟨jR_12 _, jT_p_le⟩, jZ_F_ft g1, ?_⟩)
            rw [g1.1 25 ρ (by decide)]
            exact jTB_r b1 b2 (Nat.le_refl _) (fun w hw hw2 => by omega)
          · refine jr_aload rfl rfl ?_
            refine jr_getR rfl rfl rfl rfl (Or.inl rfl) ?_
            refine jr_getI rfl rfl ?_
            refine jr_ic rfl ?_
            rw [hk]
            refine jr_icmp_ne rfl (fun c37 => ?_) (fun c37 => ?_)
            · refine jr_aload rfl rfl ?_
              refine jr_ic rfl ?_
              refine jr_cv1 (mc' := 0) (ms' := 0) rfl jm_Rdr_refuse_n jm_Rdr_refuse_f rfl rfl rfl rfl rfl rfl rfl (Nat.zero_le _) (Nat.zero_le _) ?_
              refine ev_refuse (B := B) (sz := sz) (t := t) z2 (fun h1 g1 => ?_)
              refine jr_zret rfl rfl rfl (Nat.zero_le _) (Nat.zero_le _) ?_
              have hwh := @jT_wh_iff (jT_K B sz t)
              have f4 := jn_nlt (show ¬ nI (jT_K B sz t) < nI 100 from c4) (by omega) (by decide)
              have f9 := jn_lt (show nI 106 < nI (jT_K B sz t) from c9) (by decide) (by omega)
              have f18 := jn_eq (show nI (jT_K B sz t) = nI 40 from c18) (by omega) (by decide)
              have f21 := jn_nle (show ¬ nI i ≤ nI 6 from c21) (by omega) (by decide)
              have f32 : jT_K B sz t ≠ 2 := fun y => c32 (by rw [y]; rfl)
              have f37 : jT_K B sz t ≠ 40 := fun y => c37 (by rw [y]; rfl)
              refine k _ _ (Or.inr ⟨rfl, _, _, g1.2.2.2.1, g1.2.2.2.2, ⟨jR_12 _, jT_p_le⟩, jZ_F_ft g1, ?_⟩)
              rw [g1.1 25 ρ (by decide)]
              exact jTB_r b1 b2 (Nat.le_refl _) (fun w hw hw2 => by omega)
            · refine jr_iload rfl rfl ?_
              refine jr_if_eq rfl (fun z => absurd z (by decide)) (fun _ => ?_)
              refine jr_aload rfl rfl ?_
              refine jr_ic rfl ?_
              refine jr_cv1 (mc' := 0) (ms' := 0) rfl jm_Rdr_refuse_n jm_Rdr_refuse_f rfl rfl rfl rfl rfl rfl rfl (Nat.zero_le _) (Nat.zero_le _) ?_
              refine ev_refuse (B := B) (sz := sz) (t := t) z2 (fun h1 g1 => ?_)
              refine jr_zret rfl rfl rfl (Nat.zero_le _) (Nat.zero_le _) ?_
              have hwh := @jT_wh_iff (jT_K B sz t)
              have f4 := jn_nlt (show ¬ nI (jT_K B sz t) < nI 100 from c4) (by omega) (by decide)
              have f9 := jn_lt (show nI 106 < nI (jT_K B sz t) from c9) (by decide) (by omega)
              have f18 := jn_eq (show nI (jT_K B sz t) = nI 40 from c18) (by omega) (by decide)
              have f21 := jn_nle (show ¬ nI i ≤ nI 6 from c21) (by omega) (by decide)
              have f32 : jT_K B sz t ≠ 2 := fun y => c32 (by rw [y]; rfl)
              have f37 := jn_eq (show nI (jT_K B sz t) = nI 40 from c37) (by omega) (by decide)
              refine k _ _ (Or.inr ⟨rfl, _, _, g1.2.2.2.1, g1.2.2.2.2, ⟨jR_12 _, jT_p_le⟩, jZ_F_ft g1, ?_⟩)
              rw [g1.1 25 ρ (by decide)]
              exact jTB_r b1 b2 (Nat.le_refl _) (fun w hw hw2 => by omega)
    · refine jr_ic rfl ?_
      refine jr_goto rfl ?_
      refine jr_ist2 rfl rfl ?_
      refine jr_aload rfl rfl ?_
      refine jr_getR rfl rfl rfl rfl (Or.inl rfl) ?_
      refine jr_getI rfl rfl ?_
      refine jr_ic rfl ?_
      rw [hk]
      refine jr_icmp_ne rfl (fun c18 => ?_) (fun c18 => ?_)
      · refine jr_ic rfl ?_
        refine jr_ist3 rfl rfl ?_
        refine jr_iload rfl rfl ?_
        refine jr_if_ne rfl (fun _ => ?_) (fun z => absurd z (by decide))
        refine jr_iload rfl rfl ?_
        refine jr_if_eq rfl (fun _ => ?_) (fun z => absurd (by decide) z)
        refine jr_aload rfl rfl ?_
        refine jr_getM rfl rfl rfl rfl hM ?_
        refine jr_getI rfl rfl ?_
        refine jr_ic rfl ?_
        rw [z5]
        refine jr_icmp_ge rfl (fun c48 => ?_) (fun c48 => ?_)
        · refine jr_aload rfl rfl ?_
          refine jr_ic rfl ?_
          refine jr_cv1 (mc' := 0) (ms' := 0) rfl jm_Rdr_refuse_n jm_Rdr_refuse_f rfl rfl rfl rfl rfl rfl rfl (Nat.zero_le _) (Nat.zero_le _) ?_
          refine ev_refuse (B := B) (sz := sz) (t := t) z2 (fun h1 g1 => ?_)
          refine jr_zret rfl rfl rfl (Nat.zero_le _) (Nat.zero_le _) ?_
          have hwh := @jT_wh_iff (jT_K B sz t)
          have f4 := jn_nlt (show ¬ nI (jT_K B sz t) < nI 100 from c4) (by omega) (by decide)
          have f9 := jn_nlt (show ¬ nI 106 < nI (jT_K B sz t) from c9) (by decide) (by omega)
          have f18 : jT_K B sz t ≠ 40 := fun y => c18 (by rw [y]; rfl)
          have f48 := jn_le (show nI 90 ≤ nI u from c48) (by decide) (by omega)
          refine k _ _ (Or.inr ⟨rfl, _, _, g1.2.2.2.1, g1.2.2.2.2, ⟨jR_12 _, jT_p_le⟩, jZ_F_ft g1, ?_⟩)
          rw [g1.1 25 ρ (by decide)]
          exact jTB_r b1 b2 (Nat.le_refl _) (fun w hw hw2 => by omega)
        · refine jr_aload rfl rfl ?_
          refine jr_getI rfl rfl ?_
          refine jr_ic rfl ?_
          rw [z6]
          refine jr_icmp_lt rfl (fun c52 => ?_) (fun c52 => ?_)
          · have f4 := jn_nlt (show ¬ nI (jT_K B sz t) < nI 100 from c4) (by omega) (by decide)
            have f9 := jn_nlt (show ¬ nI 106 < nI (jT_K B sz t) from c9) (by decide) (by omega)
            have f18 : jT_K B sz t ≠ 40 := fun y => c18 (by rw [y]; rfl)
            have f48 := jn_nle (show ¬ nI 90 ≤ nI u from c48) (by decide) (by omega)
            have f52 := jn_lt (show nI v < nI 30 from c52) (by omega) (by decide)
            exact lp_uw z hin hbd (by omega) (by omega) (by omega) (by omega) k
          · refine jr_aload rfl rfl ?_
            refine jr_ic rfl ?_
            refine jr_cv1 (mc' := 0) (ms' := 0) rfl jm_Rdr_refuse_n jm_Rdr_refuse_f rfl rfl rfl rfl rfl rfl rfl (Nat.zero_le _) (Nat.zero_le _) ?_
            refine ev_refuse (B := B) (sz := sz) (t := t) z2 (fun h1 g1 => ?_)
            refine jr_zret rfl rfl rfl (Nat.zero_le _) (Nat.zero_le _) ?_
            have hwh := @jT_wh_iff (jT_K B sz t)
            have f4 := jn_nlt (show ¬ nI (jT_K B sz t) < nI 100 from c4) (by omega) (by decide)
            have f9 := jn_nlt (show ¬ nI 106 < nI (jT_K B sz t) from c9) (by decide) (by omega)
            have f18 : jT_K B sz t ≠ 40 := fun y => c18 (by rw [y]; rfl)
            have f48 := jn_nle (show ¬ nI 90 ≤ nI u from c48) (by decide) (by omega)
            have f52 := jn_nlt (show ¬ nI v < nI 30 from c52) (by omega) (by decide)
            refine k _ _ (Or.inr ⟨rfl, _, _, g1.2.2.2.1, g1.2.2.2.2, ⟨jR_12 _, jT_p_le⟩, jZ_F_ft g1, ?_⟩)
            rw [g1.1 25 ρ (by decide)]
            exact jTB_r b1 b2 (Nat.le_refl _) (fun w hw hw2 => by omega)
      · refine jr_iload rfl rfl ?_
        refine jr_ic rfl ?_
        refine jr_icmp_le rfl (fun c21 => ?_) (fun c21 => ?_)
        · refine jr_ic rfl ?_
          refine jr_ist3 rfl rfl ?_
          refine jr_iload rfl rfl ?_
          refine jr_if_ne rfl (fun _ => ?_) (fun z => absurd z (by decide))
          refine jr_iload rfl rfl ?_
          refine jr_if_eq rfl (fun _ => ?_) (fun z => absurd (by decide) z)
          refine jr_aload rfl rfl ?_
          refine jr_getM rfl rfl rfl rfl hM ?_
          refine jr_getI rfl rfl ?_
          refine jr_ic rfl ?_
          rw [z5]
          refine jr_icmp_ge rfl (fun c48 => ?_) (fun c48 => ?_)
          · refine jr_aload rfl rfl ?_
            refine jr_ic rfl ?_
            refine jr_cv1 (mc' := 0) (ms' := 0) rfl jm_Rdr_refuse_n jm_Rdr_refuse_f rfl rfl rfl rfl rfl rfl rfl (Nat.zero_le _) (Nat.zero_le _) ?_
            refine ev_refuse (B := B) (sz := sz) (t := t) z2 (fun h1 g1 => ?_)
            refine jr_zret rfl rfl rfl (Nat.zero_le _) (Nat.zero_le _) ?_
            have hwh := @jT_wh_iff (jT_K B sz t)
            have f4 := jn_nlt (show ¬ nI (jT_K B sz t) < nI 100 from c4) (by omega) (by decide)
            have f9 := jn_nlt (show ¬ nI 106 < nI (jT_K B sz t) from c9) (by decide) (by omega)
            have f18 := jn_eq (show nI (jT_K B sz t) = nI 40 from c18) (by omega) (by decide)
            have f21 := jn_le (show nI i ≤ nI 6 from c21) (by omega) (by decide)
            have f48 := jn_le (show nI 90 ≤ nI u from c48) (by decide) (by omega)
            refine k _ _ (Or.inr ⟨rfl, _, _, g1.2.2.2.1, g1.2.2.2.2, ⟨jR_12 _, jT_p_le⟩, jZ_F_ft g1, ?_⟩)
            rw [g1.1 25 ρ (by decide)]
            exact jTB_r b1 b2 (Nat.le_refl _) (fun w hw hw2 => by omega)
          · refine jr_aload rfl rfl ?_
            refine jr_getI rfl rfl ?_
            refine jr_ic rfl ?_
            rw [z6]
            refine jr_icmp_lt rfl (fun c52 => ?_) (fun c52 => ?_)
            · have f4 := jn_nlt (show ¬ nI (jT_K B sz t) < nI 100 from c4) (by omega) (by decide)
              have f9 := jn_nlt (show ¬ nI 106 < nI (jT_K B sz t) from c9) (by decide) (by omega)
              have f18 := jn_eq (show nI (jT_K B sz t) = nI 40 from c18) (by omega) (by decide)
              have f21 := jn_le (show nI i ≤ nI 6 from c21) (by omega) (by decide)
              have f48 := jn_nle (show ¬ nI 90 ≤ nI u from c48) (by decide) (by omega)
              have f52 := jn_lt (show nI v < nI 30 from c52) (by omega) (by decide)
              exact lp_uw z hin hbd (by omega) (by omega) (by omega) (by omega) k
            · refine jr_aload rfl rfl ?_
              refine jr_ic rfl ?_
              refine jr_cv1 (mc' := 0) (ms' := 0) rfl jm_Rdr_refuse_n jm_Rdr_refuse_f rfl rfl rfl rfl rfl rfl rfl (Nat.zero_le _) (Nat.zero_le _) ?_
              refine ev_refuse (B := B) (sz := sz) (t := t) z2 (fun h1 g1 => ?_)
              refine jr_zret rfl rfl rfl (Nat.zero_le _) (Nat.zero_le _) ?_
              have hwh := @jT_wh_iff (jT_K B sz t)
              have f4 := jn_nlt (show ¬ nI (jT_K B sz t) < nI 100 from c4) (by omega) (by decide)
              have f9 := jn_nlt (show ¬ nI 106 < nI (jT_K B sz t) from c9) (by decide) (by omega)
              have f18 := jn_eq (show nI (jT_K B sz t) = nI 40 from c18) (by omega) (by decide)
              have f21 := jn_le (show nI i ≤ nI 6 from c21) (by omega) (by decide)
              have f48 := jn_nle (show ¬ nI 90 ≤ nI u from c48) (by decide) (by omega)
              have f52 := jn_nlt (show ¬ nI v < nI 30 from c52) (by omega) (by decide)
              refine k _ _ (Or.inr ⟨rfl, _, _, g1.2.2.2.1, g1.2.2.2.2, ⟨jR_12 _, jT_p_le⟩, jZ_F_ft g1, ?_⟩)
              rw [g1.1 25 ρ (by decide)]
              exact jTB_r b1 b2 (Nat.le_refl _) (fun w hw hw2 => by omega)
        · refine jr_ic rfl ?_
          refine jr_goto rfl ?_
          refine jr_ist3 rfl rfl ?_
          refine jr_iload rfl rfl ?_
          refine jr_if_ne rfl (fun _ => ?_) (fun z => absurd z (by decide))
          refine jr_iload rfl rfl ?_
          refine jr_if_eq rfl (fun z => absurd z (by decide)) (fun _ => ?_)
          refine jr_aload rfl rfl ?_
          refine jr_ic rfl ?_
          refine jr_cv1 (mc' := 0) (ms' := 0) rfl jm_Rdr_refuse_n jm_Rdr_refuse_f rfl rfl rfl rfl rfl rfl rfl (Nat.zero_le _) (Nat.zero_le _) ?_
          refine ev_refuse (B := B) (sz := sz) (t := t) z2 (fun h1 g1 => ?_)
          refine jr_zret rfl rfl rfl (Nat.zero_le _) (Nat.zero_le _) ?_
          have hwh := @jT_wh_iff (jT_K B sz t)
          have f4 := jn_nlt (show ¬ nI (jT_K B sz t) < nI 100 from c4) (by omega) (by decide)
          have f9 := jn_nlt (show ¬ nI 106 < nI (jT_K B sz t) from c9) (by decide) (by omega)
          have f18 := jn_eq (show nI (jT_K B sz t) = nI 40 from c18) (by omega) (by decide)
          have f21 := jn_nle (show ¬ nI i ≤ nI 6 from c21) (by omega) (by decide)
          refine k _ _ (Or.inr ⟨rfl, _, _, g1.2.2.2.1, g1.2.2.2.2, ⟨jR_12 _, jT_p_le⟩, jZ_F_ft g1, ?_⟩)
          rw [g1.1 25 ρ (by decide)]
          exact jTB_r b1 b2 (Nat.le_refl _) (fun w hw hw2 => by omega)

theorem jUN_mk {B : Nat → Int32} {sz T β ρ n : Nat} (hsub : ∀ m, n = m + 1 → jCH B sz T β ρ m 0 1 1 13) : jUN B sz T β ρ n := fun d h t u v c i Q z hin hbd k => ev_unit hsub z hin hbd k
set_option maxHeartbeats 800000 in
set_option maxRecDepth 100000 in
theorem lp_ch {d n0 : Nat} {Q : Option jx_V → jx_H → Prop} {h0 h : jx_H} {B : Nat → Int32} {sz T β ρ n t0 t u v c0 c i lv ρk θ2 off : Nat} (x kk : Nat) (x4 : Option jx_V) (hlv2 : lv ≠ 2) (hlv4 : lv ≤ 4) (hρ6 : ρk ≤ 6) (hρ3 : ρk ≠ 3) (hρ4 : ρk ≠ 4) (hρ0 : 0 < ρk) (hθ2 : ρk < θ2) (hl3 : 3 ≤ lv + 1 → 3 < ρk ∧ ρk < 7) (hch : ∀ k, jT_ch k = lv ↔ jT_rk k = ρk) (hsub : jCH B sz T β ρ n (lv + 1) θ2 (ρk + 1) (off + 1)) (z : jZ h B sz T ρ t (u + x) (v + x) c) (hF : jZ_F ρ c0 h0 h) (hcc : c0 ≤ c) (hx1 : 1 ≤ x) (hu : u + x ≤ 90) (hv : v + x ≤ 30) (hin : i + n = 7) (hsz : sz ≤ 1700) (hbd : 4 * c ≤ 8 * (u + x) + jT_p B sz t) (hpr : 8 * u + jT_p B sz t0 + 4 * c + 4 + (if jT_K B sz t0 = 128 then 0 else 1) ≤ 8 * (u + x) + jT_p B sz t + 4 * c0) (hrk : jT_rk (jT_K B sz t) < ρk + 1 ∨ jT_rk (jT_K B sz t) = 4) (hTR : jTR B sz β i lv ρk (ρk + 1) t0 u v c0 x t c (jh_I h 25 ρ)) (hkk : kk + 1 ≤ x) (k : ∀ r h', jO B sz T β ρ i lv ρk ρk t0 u v c0 h0 r h' → Q r h')  : jx_W (jm_Rdr_readChain, d + 10 * n + off + 2, 0, 0, false, 0, n0) Q 0 0 25 [some (jv_r 6 0), some (jv_i (nI lv)), some (jv_i (nI i)), some (jv_i (nI kk)), x4] [] h := by
  obtain ⟨z1, z2, z3, z4, z5, z6, z7, z8⟩ := id z
  have hM := z4
  have hk : jh_I h 9 0 8 = nI (jT_K B sz t) := z2.2.1
  have hpl := @jT_p_le B sz t
  have hkl : jT_K B sz t < 256 := jT_k_lt
  have hchl : jT_ch (jT_K B sz t) < 7 := by unfold jT_ch; (repeat' split) <;> decide
  refine jr_iload rfl rfl ?_
  refine jr_ic rfl ?_
  refine jr_icmp_ge rfl (fun z => absurd z (nI_ge (a := kk) (b := 90) (by omega) (by decide))) (fun _ => ?_)
  refine jr_aload rfl rfl ?_
  refine jr_getR rfl rfl rfl rfl (Or.inl rfl) ?_
  refine jr_getI rfl rfl ?_
  rw [hk]
  refine jr_cs1 (mc' := 0) (ms' := 0) rfl jm_Rdr_chainOf_n jm_Rdr_chainOf_f rfl rfl rfl rfl rfl (Nat.zero_le _) (Nat.zero_le _) ?_
  refine ev_chainOf hkl ?_
  refine jr_iload rfl rfl ?_
  refine jr_icmp_ne rfl (fun c33 => ?_) (fun c33 => ?_)
  · refine jr_ic rfl ?_
    refine jr_zret rfl rfl rfl (Nat.zero_le _) (Nat.zero_le _) ?_
    have hne : jT_rk (jT_K B sz t) ≠ ρk := fun y => c33 (by rw [(hch _).mpr y])
    exact k _ _ (Or.inl ⟨rfl, x, t, c, z, hF, hcc, hx1, hu, hv, hpr, by omega, jTR_mu hTR (fun y => by omega) (fun y => by omega)⟩)
  · have hrkk : jT_rk (jT_K B sz t) = ρk := (hch _).mp (jn_eq (show nI (jT_ch (jT_K B sz t)) = nI lv from c33) (by omega) (by omega))
    have hg1 := jT_f_gt (B := B) (sz := sz) (t := t) (jT_rk_lo (by omega))
    refine jr_aload rfl rfl ?_
    refine jr_getR rfl rfl rfl rfl (Or.inl rfl) ?_
    refine jr_getI rfl rfl ?_
    rw [hk]
    refine jr_ist4 rfl rfl ?_
    refine jr_aload rfl rfl ?_
    refine jr_getR rfl rfl rfl rfl (Or.inl rfl) ?_
    refine jr_cv0 (mc' := 0) (ms' := 0) rfl jm_Tape_take_n jm_Tape_take_f rfl rfl rfl rfl rfl rfl rfl (Nat.zero_le _) (Nat.zero_le _) ?_
    refine ev_take (B := B) (sz := sz) z.1 z.2.1.1 (jT_next z1 z3 (jT_rk_lo (by omega))) (fun h3 g3 c3 => ?_)
    have z33 := jZ_take z g3 c3 (jT_next z1 z3 (jT_rk_lo (by omega)))
    refine jr_aload rfl rfl ?_
    refine jr_iload rfl rfl ?_
    refine jr_ic rfl ?_
    refine jr_iadd rfl ?_
    refine jr_iload rfl rfl ?_
    rw [jn_S]
    refine jr_cv2 (mc' := 0) (ms' := 0) rfl jm_Rdr_readChain_n jm_Rdr_readChain_f rfl rfl rfl rfl rfl rfl rfl (Nat.zero_le _) (Nat.zero_le _) ?_
    refine hsub d h3 (t + 1) (u + x) (v + x) c i _ z33 hin ⟨by omega, by omega, by omega, hsz⟩ (fun r h4 o4 => ?_)
    rcases o4 with ⟨rfl, x2, t1, c1, y1, y2, y3, y4, y5, y6, y7, y8, y9⟩ | ⟨rfl, kd, pl, y1, y2, y3, y4, y5⟩
    · refine jr_if_ne rfl (fun _ => ?_) (fun z => absurd z (by decide))
      refine jr_aload rfl rfl ?_
      refine jr_getM rfl rfl rfl rfl y1.2.2.2.1 ?_
      refine jr_iload rfl rfl ?_
      refine jr_ineg rfl ?_
      refine jr_cv1 (mc' := 0) (ms' := 0) rfl jm_Rep_emit_n jm_Rep_emit_f rfl rfl rfl rfl rfl rfl rfl (Nat.zero_le _) (Nat.zero_le _) ?_
      refine ev_emit (c := c1) y1.2.2.2.2.2.2.1 (by have := @jT_p_le B sz t1; omega) (jZ_asks y1) (fun h5 e5 => ?_)
      have z5' := jZ_emit y1 e5
      have htr := jt_trs (k := jT_K B sz t) (by omega)
      refine jr_iinc3 rfl rfl ?_
      refine jr_goto rfl ?_
      rw [jn_S]
      refine lp_ch (x + x2) (kk + 1) _ hlv2 hlv4 hρ6 hρ3 hρ4 hρ0 hθ2 hl3 hch hsub (by rw [← Nat.add_assoc, ← Nat.add_assoc]; exact z5') (jZ_F_t hcc hF (jZ_F_t (Nat.le_refl c) (jZ_F_G g3) (jZ_F_t y3 y2 (jZ_F_E e5)))) (by omega) (by omega) (by omega) (by omega) hin hsz ?_ ?_ y8 ?_ (by omega) k
      · have := @jT_p_le B sz t1
        split at y7 <;> omega
      · split at y7 <;> omega
      · have hD1 : ∀ q, q < c1 → jh_I h5 25 ρ q = jh_I h4 25 ρ q := fun q hq => by rw [e5.2.2.1, jg_un (by omega)]
        have hD0 : ∀ q, q < c → jh_I h5 25 ρ q = jh_I h 25 ρ q := fun q hq => (hD1 q (by omega)).trans ((y2.2.2.2.2.2.2 q hq).trans (congrFun (g3.1 25 ρ (by decide)) q))
        exact jTR_ch hρ6 hρ3 hρ4 hρ0 hθ2 hlv4 hl3 hcc y3 (by have := @jT_p_le B sz t1; split at y7 <;> omega) (jTR_D hcc hD0 hTR) hrkk (jTR_D y3 hD1 y9) hx1 (by rw [e5.2.2.1, jg_us]; exact htr.1) htr.2
    · refine jr_if_ne rfl (fun z => absurd (by decide) z) (fun _ => ?_)
      refine jr_ic rfl ?_
      refine jr_zret rfl rfl rfl (Nat.zero_le _) (Nat.zero_le _) ?_
      refine k _ _ (Or.inr ⟨rfl, kd, pl, y1, y2, y3, jZ_F_t hcc hF (jZ_F_t (Nat.le_refl c) (jZ_F_G g3) y4), ?_⟩)
      exact jTB_ch hρ4 hρ0 hθ2 hlv4 hl3 hcc (jTR_D hcc (fun q hq => (y4.2.2.2.2.2.2 q hq).trans (congrFun (g3.1 25 ρ (by decide)) q)) hTR) hrkk y5
termination_by 30 - kk
decreasing_by all_goals omega

set_option maxHeartbeats 800000 in
set_option maxRecDepth 100000 in
theorem ev_chain {d : Nat} {h : jx_H} {Q : Option jx_V → jx_H → Prop} {B : Nat → Int32} {sz T β ρ n lv ρk θ2 off t u v c i : Nat}  (hlv2 : lv ≠ 2) (hlv4 : lv ≤ 4) (hρ6 : ρk ≤ 6) (hρ3 : ρk ≠ 3) (hρ4 : ρk ≠ 4) (hρ0 : 0 < ρk) (hθ2 : ρk < θ2) (hl3 : 3 ≤ lv + 1 → 3 < ρk ∧ ρk < 7) (hch : ∀ k, jT_ch k = lv ↔ jT_rk k = ρk) (hsub : jCH B sz T β ρ n (lv + 1) θ2 (ρk + 1) (off + 1)) (z : jZ h B sz T ρ t u v c) (hin : i + n = 7) (hbd : jBd B sz t u v c) (k : ∀ r h', jO B sz T β ρ i lv ρk ρk t u v c h r h' → Q r h')  : jx_Ev jm_Rdr_readChain (d + 10 * n + off + 2) 0 0 false 0 [jv_r 6 0, jv_i (nI lv), jv_i (nI i)] h Q := by
  show jx_W (jm_Rdr_readChain, d + 10 * n + off + 2, 0, 0, false, 0, _) Q 0 0 0 [some (jv_r 6 0), some (jv_i (nI lv)), some (jv_i (nI i)), none, none] [] _
  obtain ⟨z1, z2, z3, z4, z5, z6, z7, z8⟩ := id z
  have hM := z4
  have hk : jh_I h 9 0 8 = nI (jT_K B sz t) := z2.2.1
  obtain ⟨b1, b2, b3, b4⟩ := id hbd
  have hc := jBd_c hbd
  have hkl : jT_K B sz t < 256 := jT_k_lt
  refine jr_iload rfl rfl ?_
  refine jr_ic rfl ?_
  refine jr_icmp_ne rfl (fun _ => ?_) (fun z => absurd z (fun y => hlv2 (jn_eq (show nI lv = nI 2 from y) (by omega) (by decide))))
  refine jr_iload rfl rfl ?_
  refine jr_ic rfl ?_
  refine jr_icmp_lt rfl (fun _ => ?_) (fun z => absurd (nI_lt (a := lv) (b := 5) (by omega) (by decide)) z)
  refine jr_aload rfl rfl ?_
  refine jr_iload rfl rfl ?_
  refine jr_ic rfl ?_
  refine jr_iadd rfl ?_
  refine jr_iload rfl rfl ?_
  rw [jn_S]
  refine jr_cv2 (mc' := 0) (ms' := 0) rfl jm_Rdr_readChain_n jm_Rdr_readChain_f rfl rfl rfl rfl rfl rfl rfl (Nat.zero_le _) (Nat.zero_le _) ?_
  refine hsub d h t u v c i _ z hin hbd (fun r h4 o4 => ?_)
  rcases o4 with ⟨rfl, x, t1, c1, y1, y2, y3, y4, y5, y6, y7, y8, y9⟩ | ⟨rfl, kd, pl, y1, y2, y3, y4, y5⟩
  · refine jr_if_ne rfl (fun _ => ?_) (fun z => absurd z (by decide))
    refine jr_ic rfl ?_
    refine jr_ist3 rfl rfl ?_
    refine lp_ch (h0 := h) x 0 _ hlv2 hlv4 hρ6 hρ3 hρ4 hρ0 hθ2 hl3 hch hsub y1 y2 y3 y4 y5 y6 hin b4 ?_ y7 y8 (jTR_up (by omega) (by omega) (fun _ _ => by omega) y9) y4 k
    split at y7 <;> omega
  · refine jr_if_ne rfl (fun z => absurd (by decide) z) (fun _ => ?_)
    refine jr_ic rfl ?_
    refine jr_zret rfl rfl rfl (Nat.zero_le _) (Nat.zero_le _) ?_
    exact k _ _ (Or.inr ⟨rfl, kd, pl, y1, y2, y3, y4, jTB_up (by omega) (by omega) (fun _ _ => by omega) y5⟩)

