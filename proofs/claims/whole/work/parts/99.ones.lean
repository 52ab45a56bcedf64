def jON (B : Nat → Int32) (sz T β ρ n : Nat) : Prop := ∀ (d : Nat) (h : jx_H) (t u v c i : Nat) (Q : Option jx_V → jx_H → Prop), jZ h B sz T ρ t u v c → i + n = 7 → jBd B sz t u v c → (∀ r h', jO B sz T β ρ i 2 4 3 t u v c h r h' → Q r h') → jx_Ev jm_Rdr_readOne (d + 10 * n + 10) 0 0 false 0 [jv_r 6 0, jv_i (nI i)] h Q
theorem jT_rk4 {k : Nat} : jT_rk k = 4 ↔ k = 60 ∨ k = 62 ∨ k = 61 := by
  unfold jT_rk
  repeat' split
  all_goals omega
set_option maxHeartbeats 800000 in
set_option maxRecDepth 100000 in
theorem ev_ch5 {d : Nat} {h : jx_H} {Q : Option jx_V → jx_H → Prop} {B : Nat → Int32} {sz T β ρ n t u v c i : Nat}  (hsub : jUN B sz T β ρ n) (z : jZ h B sz T ρ t u v c) (hin : i + n = 7) (hbd : jBd B sz t u v c) (k : ∀ r h', jO B sz T β ρ i 5 7 7 t u v c h r h' → Q r h')  : jx_Ev jm_Rdr_readChain (d + 10 * n + 7) 0 0 false 0 [jv_r 6 0, jv_i (nI 5), jv_i (nI i)] h Q := by
  show jx_W (jm_Rdr_readChain, d + 10 * n + 7, 0, 0, false, 0, _) Q 0 0 0 [some (jv_r 6 0), some (jv_i (nI 5)), some (jv_i (nI i)), none, none] [] _
  refine jr_iload rfl rfl ?_
  refine jr_ic rfl ?_
  refine jr_icmp_ne rfl (fun _ => ?_) (fun z => absurd z (by decide))
  refine jr_iload rfl rfl ?_
  refine jr_ic rfl ?_
  refine jr_icmp_lt rfl (fun z => absurd z (by decide)) (fun _ => ?_)
  refine jr_aload rfl rfl ?_
  refine jr_iload rfl rfl ?_
  refine jr_cv1 (mc' := 0) (ms' := 0) rfl jm_Rdr_readUnit_n jm_Rdr_readUnit_f rfl rfl rfl rfl rfl rfl rfl (Nat.zero_le _) (Nat.zero_le _) ?_
  refine hsub d h t u v c i _ z hin hbd (fun r h4 o4 => ?_)
  have oo := o4
  rcases o4 with ⟨rfl, x, t1, c1, y1, y2, y3, y4, y5, y6, y7, y8, y9⟩ | ⟨rfl, kd, pl, y1, y2, y3, y4, y5⟩
  · refine jr_zret rfl rfl rfl (Nat.zero_le _) (Nat.zero_le _) ?_
    exact k _ _ oo
  · refine jr_zret rfl rfl rfl (Nat.zero_le _) (Nat.zero_le _) ?_
    exact k _ _ oo

set_option maxHeartbeats 800000 in
set_option maxRecDepth 100000 in
theorem ev_ch2 {d : Nat} {h : jx_H} {Q : Option jx_V → jx_H → Prop} {B : Nat → Int32} {sz T β ρ n t u v c i : Nat}  (hsub : jON B sz T β ρ n) (z : jZ h B sz T ρ t u v c) (hin : i + n = 7) (hbd : jBd B sz t u v c) (k : ∀ r h', jO B sz T β ρ i 2 4 3 t u v c h r h' → Q r h')  : jx_Ev jm_Rdr_readChain (d + 10 * n + 11) 0 0 false 0 [jv_r 6 0, jv_i (nI 2), jv_i (nI i)] h Q := by
  show jx_W (jm_Rdr_readChain, d + 10 * n + 11, 0, 0, false, 0, _) Q 0 0 0 [some (jv_r 6 0), some (jv_i (nI 2)), some (jv_i (nI i)), none, none] [] _
  refine jr_iload rfl rfl ?_
  refine jr_ic rfl ?_
  refine jr_icmp_ne rfl (fun z => absurd (by decide) z) (fun _ => ?_)
  refine jr_aload rfl rfl ?_
  refine jr_iload rfl rfl ?_
  refine jr_cv1 (mc' := 0) (ms' := 0) rfl jm_Rdr_readOne_n jm_Rdr_readOne_f rfl rfl rfl rfl rfl rfl rfl (Nat.zero_le _) (Nat.zero_le _) ?_
  refine hsub d h t u v c i _ z hin hbd (fun r h4 o4 => ?_)
  have oo := o4
  rcases o4 with ⟨rfl, x, t1, c1, y1, y2, y3, y4, y5, y6, y7, y8, y9⟩ | ⟨rfl, kd, pl, y1, y2, y3, y4, y5⟩
  · refine jr_zret rfl rfl rfl (Nat.zero_le _) (Nat.zero_le _) ?_
    exact k _ _ oo
  · refine jr_zret rfl rfl rfl (Nat.zero_le _) (Nat.zero_le _) ?_
    exact k _ _ oo

set_option maxHeartbeats 800000 in
set_option maxRecDepth 100000 in
theorem ev_not {d : Nat} {h : jx_H} {Q : Option jx_V → jx_H → Prop} {B : Nat → Int32} {sz T β ρ n t u v c i : Nat}  (hone : ∀ m, n = m + 1 → jON B sz T β ρ m) (z : jZ h B sz T ρ t u v c) (hin : i + n = 7) (hbd : jBd B sz t u v c) (hK : jT_K B sz t = 128) (k : ∀ r h', jO B sz T β ρ i 2 4 3 t u v c h r h' → Q r h')  : jx_Ev jm_Rdr_readNot (d + 10 * n + 9) 0 0 false 0 [jv_r 6 0, jv_i (nI i)] h Q := by
  show jx_W (jm_Rdr_readNot, d + 10 * n + 9, 0, 0, false, 0, _) Q 0 0 0 [some (jv_r 6 0), some (jv_i (nI i))] [] _
  obtain ⟨z1, z2, z3, z4, z5, z6, z7, z8⟩ := id z
  have hM := z4
  have hk : jh_I h 9 0 8 = nI (jT_K B sz t) := z2.2.1
  obtain ⟨b1, b2, b3, b4⟩ := id hbd
  have hc := jBd_c hbd
  have hkl : jT_K B sz t < 256 := jT_k_lt
  refine jr_iload rfl rfl ?_
  refine jr_ic rfl ?_
  refine jr_icmp_le rfl (fun c2 => ?_) (fun c2 => ?_)
  · have hi7 := jn_le (show nI i ≤ nI 6 from c2) (by omega) (by decide)
    refine jr_aload rfl rfl ?_
    refine jr_getR rfl rfl rfl rfl (Or.inl rfl) ?_
    refine jr_cv0 (mc' := 0) (ms' := 0) rfl jm_Tape_take_n jm_Tape_take_f rfl rfl rfl rfl rfl rfl rfl (Nat.zero_le _) (Nat.zero_le _) ?_
    refine ev_take (B := B) (sz := sz) z.1 z.2.1.1 (jT_next z1 z3 (by omega)) (fun h3 g3 c3 => ?_)
    have z33 := jZ_take z g3 c3 (jT_next z1 z3 (by omega))
    have hg1 := jT_not (B := B) (sz := sz) (t := t) hK
    refine jr_aload rfl rfl ?_
    refine jr_iload rfl rfl ?_
    refine jr_ic rfl ?_
    refine jr_iadd rfl ?_
    rw [jn_S]
    refine jr_cv1 (mc' := 0) (ms' := 0) rfl jm_Rdr_readOne_n jm_Rdr_readOne_f rfl rfl rfl rfl rfl rfl rfl (Nat.zero_le _) (Nat.zero_le _) ?_
    obtain ⟨m, rfl⟩ : ∃ m, n = m + 1 := ⟨n - 1, by omega⟩
    rw [show d + 10 * (m + 1) + 8 = (d + 8) + 10 * m + 10 by omega]
    refine hone m rfl (d + 8) h3 (t + 1) u v c (i + 1) _ z33 (by omega) ⟨by omega, by omega, by omega, b4⟩ (fun r h4 o4 => ?_)
    rcases o4 with ⟨rfl, x, t1, c1, y1, y2, y3, y4, y5, y6, y7, y8, y9⟩ | ⟨rfl, kd, pl, y1, y2, y3, y4, y5⟩
    · refine jr_if_ne rfl (fun _ => ?_) (fun z => absurd z (by decide))
      refine jr_aload rfl rfl ?_
      refine jr_getM rfl rfl rfl rfl y1.2.2.2.1 ?_
      refine jr_ic rfl ?_
      refine jr_cv1 (mc' := 0) (ms' := 0) rfl jm_Rep_emit_n jm_Rep_emit_f rfl rfl rfl rfl rfl rfl rfl (Nat.zero_le _) (Nat.zero_le _) ?_
      refine ev_emit (c := c1) y1.2.2.2.2.2.2.1 (by have := @jT_p_le B sz t1; split at y7 <;> omega) (jZ_asks y1) (fun h5 e5 => ?_)
      refine jr_ic rfl ?_
      refine jr_zret rfl rfl rfl (Nat.zero_le _) (Nat.zero_le _) ?_
      have hg4 := hg1.2
      refine k _ _ (Or.inl ⟨rfl, x, t1, c1 + 1, jZ_emit y1 e5, jZ_F_t (Nat.le_refl c) (jZ_F_G g3) (jZ_F_t y3 y2 (jZ_F_E e5)), by omega, y4, y5, y6, ?_, y8, ?_⟩)
      · rw [if_pos hK]
        split at y7 <;> omega
      · have hD1 : ∀ q, q < c1 → jh_I h5 25 ρ q = jh_I h4 25 ρ q := fun q hq => by rw [e5.2.2.1, jg_un (by omega)]
        exact jTR_not hK (by omega) b1 b2 y3 (by have := @jT_p_le B sz t1; split at y7 <;> omega) y4 (jTR_D y3 hD1 y9) (by rw [e5.2.2.1, jg_us]; exact Or.inr (Or.inr (Or.inl ⟨rfl, rfl⟩)))
    · refine jr_if_ne rfl (fun z => absurd (by decide) z) (fun _ => ?_)
      refine jr_ic rfl ?_
      refine jr_zret rfl rfl rfl (Nat.zero_le _) (Nat.zero_le _) ?_
      exact k _ _ (Or.inr ⟨rfl, kd, pl, y1, y2, y3, jZ_F_t (Nat.le_refl c) (jZ_F_G g3) y4, jTB_not hK (by omega) b1 b2 y5⟩)
  · refine jr_aload rfl rfl ?_
    refine jr_ic rfl ?_
    refine jr_cv1 (mc' := 0) (ms' := 0) rfl jm_Rdr_refuse_n jm_Rdr_refuse_f rfl rfl rfl rfl rfl rfl rfl (Nat.zero_le _) (Nat.zero_le _) ?_
    refine ev_refuse (B := B) (sz := sz) (t := t) z2 (fun h1 g1 => ?_)
    refine jr_zret rfl rfl rfl (Nat.zero_le _) (Nat.zero_le _) ?_
    have hi7 : 6 < i := jn_nle (show ¬ nI i ≤ nI 6 from c2) (by omega) (by decide)
    refine k _ _ (Or.inr ⟨rfl, _, _, g1.2.2.2.1, g1.2.2.2.2, ⟨jR_12 _, jT_p_le⟩, jZ_F_ft g1, ?_⟩)
    rw [g1.1 25 ρ (by decide)]
    exact jTB_r b1 b2 (by decide) (fun w hw hw2 => by omega)

set_option maxHeartbeats 800000 in
set_option maxRecDepth 100000 in
theorem ev_one {d : Nat} {h : jx_H} {Q : Option jx_V → jx_H → Prop} {B : Nat → Int32} {sz T β ρ n t u v c i : Nat} (hone : ∀ m, n = m + 1 → jON B sz T β ρ m) (hsub : jCH B sz T β ρ n 3 5 5 9) (z : jZ h B sz T ρ t u v c) (hin : i + n = 7) (hbd : jBd B sz t u v c) (k : ∀ r h', jO B sz T β ρ i 2 4 3 t u v c h r h' → Q r h')  : jx_Ev jm_Rdr_readOne (d + 10 * n + 10) 0 0 false 0 [jv_r 6 0, jv_i (nI i)] h Q := by
  show jx_W (jm_Rdr_readOne, d + 10 * n + 10, 0, 0, false, 0, _) Q 0 0 0 [some (jv_r 6 0), some (jv_i (nI i)), none] [] _
  obtain ⟨z1, z2, z3, z4, z5, z6, z7, z8⟩ := id z
  have hM := z4
  have hk : jh_I h 9 0 8 = nI (jT_K B sz t) := z2.2.1
  obtain ⟨b1, b2, b3, b4⟩ := id hbd
  have hc := jBd_c hbd
  have hkl : jT_K B sz t < 256 := jT_k_lt
  by_cases hK : jT_K B sz t = 128
  · refine jr_aload rfl rfl ?_
    refine jr_getR rfl rfl rfl rfl (Or.inl rfl) ?_
    refine jr_getI rfl rfl ?_
    refine jr_ic rfl ?_
    refine jr_icmp_ne rfl (fun z => absurd (hk.trans (by rw [hK]; rfl)) z) (fun _ => ?_)
    refine jr_aload rfl rfl ?_
    refine jr_iload rfl rfl ?_
    refine jr_cv1 (mc' := 0) (ms' := 0) rfl jm_Rdr_readNot_n jm_Rdr_readNot_f rfl rfl rfl rfl rfl rfl rfl (Nat.zero_le _) (Nat.zero_le _) ?_
    refine ev_not hone z hin hbd hK (fun r h4 o4 => ?_)
    have oo := o4
    rcases o4 with ⟨rfl, x, t1, c1, y1, y2, y3, y4, y5, y6, y7, y8, y9⟩ | ⟨rfl, kd, pl, y1, y2, y3, y4, y5⟩
    · refine jr_zret rfl rfl rfl (Nat.zero_le _) (Nat.zero_le _) ?_
      exact k _ _ oo
    · refine jr_zret rfl rfl rfl (Nat.zero_le _) (Nat.zero_le _) ?_
      exact k _ _ oo
  · refine jr_aload rfl rfl ?_
    refine jr_getR rfl rfl rfl rfl (Or.inl rfl) ?_
    refine jr_getI rfl rfl ?_
    refine jr_ic rfl ?_
    refine jr_icmp_ne rfl (fun _ => ?_) (fun z => absurd z (fun y => hK (jn_eq (hk.symm.trans (show jh_I h 9 0 8 = nI 128 from y)) (by omega) (by decide))))
    refine jr_aload rfl rfl ?_
    refine jr_ic rfl ?_
    refine jr_iload rfl rfl ?_
    refine jr_cv2 (mc' := 0) (ms' := 0) rfl jm_Rdr_readChain_n jm_Rdr_readChain_f rfl rfl rfl rfl rfl rfl rfl (Nat.zero_le _) (Nat.zero_le _) ?_
    refine hsub d h t u v c i _ z hin hbd (fun r h4 o4 => ?_)
    rcases o4 with ⟨rfl, x, t1, c1, y1, y2, y3, y4, y5, y6, y7, y8, y9⟩ | ⟨rfl, kd, pl, y1, y2, y3, y4, y5⟩
    · have hk1 : jh_I h4 9 0 8 = nI (jT_K B sz t1) := y1.2.1.2.1
      have hkl1 : jT_K B sz t1 < 256 := jT_k_lt
      refine jr_if_ne rfl (fun _ => ?_) (fun z => absurd z (by decide))
      refine jr_aload rfl rfl ?_
      refine jr_getR rfl rfl rfl rfl (Or.inl rfl) ?_
      refine jr_getI rfl rfl ?_
      rw [hk1]
      refine jr_ist2 rfl rfl ?_
      refine jr_iload rfl rfl ?_
      refine jr_ic rfl ?_
      refine jr_icmp_eq rfl (fun c22 => ?_) (fun c22 => ?_)
      · have hr4 : jT_rk (jT_K B sz t1) = 4 := jT_rk4.mpr (Or.inl (jn_eq (show nI (jT_K B sz t1) = nI 60 from c22) (by omega) (by decide)))
        have hgt1 := jT_f_gt (B := B) (sz := sz) (t := t1) (jT_rk_lo (by omega))
        refine jr_aload rfl rfl ?_
        refine jr_getR rfl rfl rfl rfl (Or.inl rfl) ?_
        refine jr_cv0 (mc' := 0) (ms' := 0) rfl jm_Tape_take_n jm_Tape_take_f rfl rfl rfl rfl rfl rfl rfl (Nat.zero_le _) (Nat.zero_le _) ?_
        refine ev_take (B := B) (sz := sz) y1.1 y1.2.1.1 (jT_next y1.1 y1.2.2.1 (jT_rk_lo (by omega))) (fun h5 g5 c5 => ?_)
        have z55 := jZ_take y1 g5 c5 (jT_next y1.1 y1.2.2.1 (jT_rk_lo (by omega)))
        refine jr_aload rfl rfl ?_
        refine jr_ic rfl ?_
        refine jr_iload rfl rfl ?_
        refine jr_cv2 (mc' := 0) (ms' := 0) rfl jm_Rdr_readChain_n jm_Rdr_readChain_f rfl rfl rfl rfl rfl rfl rfl (Nat.zero_le _) (Nat.zero_le _) ?_
        refine hsub d h5 (t1 + 1) (u + x) (v + x) c1 i _ z55 hin ⟨by omega, by omega, by have := @jT_p_le B sz t1; split at y7 <;> omega, b4⟩ (fun r h6 o6 => ?_)
        rcases o6 with ⟨rfl, x2, t2, c2, w1, w2, w3, w4, w5, w6, w7, w8, w9⟩ | ⟨rfl, kd, pl, w1, w2, w3, w4, w5⟩
        · refine jr_if_ne rfl (fun _ => ?_) (fun z => absurd z (by decide))
          refine jr_aload rfl rfl ?_
          refine jr_getM rfl rfl rfl rfl w1.2.2.2.1 ?_
          refine jr_iload rfl rfl ?_
          refine jr_ineg rfl ?_
          refine jr_cv1 (mc' := 0) (ms' := 0) rfl jm_Rep_emit_n jm_Rep_emit_f rfl rfl rfl rfl rfl rfl rfl (Nat.zero_le _) (Nat.zero_le _) ?_
          refine ev_emit (c := c2) w1.2.2.2.2.2.2.1 (by have := @jT_p_le B sz t2; split at y7 <;> split at w7 <;> omega) (jZ_asks w1) (fun h7 e7 => ?_)
          refine jr_ic rfl ?_
          refine jr_zret rfl rfl rfl (Nat.zero_le _) (Nat.zero_le _) ?_
          have htr := jt_trs (k := jT_K B sz t1) (by omega)
          have hD2 : ∀ q, q < c2 → jh_I h7 25 ρ q = jh_I h6 25 ρ q := fun q hq => by rw [e7.2.2.1, jg_un (by omega)]
          have hD1 : ∀ q, q < c1 → jh_I h7 25 ρ q = jh_I h4 25 ρ q := fun q hq => (hD2 q (by omega)).trans ((w2.2.2.2.2.2.2 q hq).trans (congrFun (g5.1 25 ρ (by decide)) q))
          refine k _ _ (Or.inl ⟨rfl, x + x2, t2, c2 + 1, by rw [← Nat.add_assoc, ← Nat.add_assoc]; exact jZ_emit w1 e7, jZ_F_t y3 y2 (jZ_F_t (Nat.le_refl c1) (jZ_F_G g5) (jZ_F_t w3 w2 (jZ_F_E e7))), by omega, by omega, by omega, by omega, ?_, ?_, ?_⟩)
          · rw [if_neg hK] at y7 ⊢
            split at w7 <;> omega
          · have hn3 := jT_rk_n3 (jT_K B sz t2)
            omega
          · exact jTR_rel y3 w3 (by have := @jT_p_le B sz t2; split at y7 <;> split at w7 <;> omega) hK (jTR_D y3 hD1 y9) hr4 (jTR_D w3 hD2 w9) y4 (by rw [e7.2.2.1, jg_us]; exact htr.1) htr.2
        · refine jr_if_ne rfl (fun z => absurd (by decide) z) (fun _ => ?_)
          refine jr_ic rfl ?_
          refine jr_zret rfl rfl rfl (Nat.zero_le _) (Nat.zero_le _) ?_
          exact k _ _ (Or.inr ⟨rfl, kd, pl, w1, w2, w3, jZ_F_t y3 y2 (jZ_F_t (Nat.le_refl c1) (jZ_F_G g5) w4), jTB_rel y3 hK (jTR_D y3 (fun q hq => (w4.2.2.2.2.2.2 q hq).trans (congrFun (g5.1 25 ρ (by decide)) q)) y9) hr4 w5⟩)
      · refine jr_iload rfl rfl ?_
        refine jr_ic rfl ?_
        refine jr_icmp_eq rfl (fun c25 => ?_) (fun c25 => ?_)
        · have hr4 : jT_rk (jT_K B sz t1) = 4 := jT_rk4.mpr (Or.inr (Or.inl (jn_eq (show nI (jT_K B sz t1) = nI 62 from c25) (by omega) (by decide))))
          have hgt1 := jT_f_gt (B := B) (sz := sz) (t := t1) (jT_rk_lo (by omega))
          refine jr_aload rfl rfl ?_
          refine jr_getR rfl rfl rfl rfl (Or.inl rfl) ?_
          refine jr_cv0 (mc' := 0) (ms' := 0) rfl jm_Tape_take_n jm_Tape_take_f rfl rfl rfl rfl rfl rfl rfl (Nat.zero_le _) (Nat.zero_le _) ?_
          refine ev_take (B := B) (sz := sz) y1.1 y1.2.1.1 (jT_next y1.1 y1.2.2.1 (jT_rk_lo (by omega))) (fun h5 g5 c5 => ?_)
          have z55 := jZ_take y1 g5 c5 (jT_next y1.1 y1.2.2.1 (jT_rk_lo (by omega)))
          refine jr_aload rfl rfl ?_
          refine jr_ic rfl ?_
          refine jr_iload rfl rfl ?_
          refine jr_cv2 (mc' := 0) (ms' := 0) rfl jm_Rdr_readChain_n jm_Rdr_readChain_f rfl rfl rfl rfl rfl rfl rfl (Nat.zero_le _) (Nat.zero_le _) ?_
          refine hsub d h5 (t1 + 1) (u + x) (v + x) c1 i _ z55 hin ⟨by omega, by omega, by have := @jT_p_le B sz t1; split at y7 <;> omega, b4⟩ (fun r h6 o6 => ?_)
          rcases o6 with ⟨rfl, x2, t2, c2, w1, w2, w3, w4, w5, w6, w7, w8, w9⟩ | ⟨rfl, kd, pl, w1, w2, w3, w4, w5⟩
          · refine jr_if_ne rfl (fun _ => ?_) (fun z => absurd z (by decide))
            refine jr_aload rfl rfl ?_
            refine jr_getM rfl rfl rfl rfl w1.2.2.2.1 ?_
            refine jr_iload rfl rfl ?_
            refine jr_ineg rfl ?_
            refine jr_cv1 (mc' := 0) (ms' := 0) rfl jm_Rep_emit_n jm_Rep_emit_f rfl rfl rfl rfl rfl rfl rfl (Nat.zero_le _) (Nat.zero_le _) ?_
            refine ev_emit (c := c2) w1.2.2.2.2.2.2.1 (by have := @jT_p_le B sz t2; split at y7 <;> split at w7 <;> omega) (jZ_asks w1) (fun h7 e7 => ?_)
            refine jr_ic rfl ?_
            refine jr_zret rfl rfl rfl (Nat.zero_le _) (Nat.zero_le _) ?_
            have htr := jt_trs (k := jT_K B sz t1) (by omega)
            have hD2 : ∀ q, q < c2 → jh_I h7 25 ρ q = jh_I h6 25 ρ q := fun q hq => by rw [e7.2.2.1, jg_un (by omega)]
            have hD1 : ∀ q, q < c1 → jh_I h7 25 ρ q = jh_I h4 25 ρ q := fun q hq => (hD2 q (by omega)).trans ((w2.2.2.2.2.2.2 q hq).trans (congrFun (g5.1 25 ρ (by decide)) q))
            refine k _ _ (Or.inl ⟨rfl, x + x2, t2, c2 + 1, by rw [← Nat.add_assoc, ← Nat.add_assoc]; exact jZ_emit w1 e7, jZ_F_t y3 y2 (jZ_F_t (Nat.le_refl c1) (jZ_F_G g5) (jZ_F_t w3 w2 (jZ_F_E e7))), by omega, by omega, by omega, by omega, ?_, ?_, ?_⟩)
            · rw [if_neg hK] at y7 ⊢
              split at w7 <;> omega
            · have hn3 := jT_rk_n3 (jT_K B sz t2)
              omega
            · exact jTR_rel y3 w3 (by have := @jT_p_le B sz t2; split at y7 <;> split at w7 <;> omega) hK (jTR_D y3 hD1 y9) hr4 (jTR_D w3 hD2 w9) y4 (by rw [e7.2.2.1, jg_us]; exact htr.1) htr.2
          · refine jr_if_ne rfl (fun z => absurd (by decide) z) (fun _ => ?_)
            refine jr_ic rfl ?_
            refine jr_zret rfl rfl rfl (Nat.zero_le _) (Nat.zero_le _) ?_
            exact k _ _ (Or.inr ⟨rfl, kd, pl, w1, w2, w3, jZ_F_t y3 y2 (jZ_F_t (Nat.le_refl c1) (jZ_F_G g5) w4), jTB_rel y3 hK (jTR_D y3 (fun q hq => (w4.2.2.2.2.2.2 q hq).trans (congrFun (g5.1 25 ρ (by decide)) q)) y9) hr4 w5⟩)
        · refine jr_iload rfl rfl ?_
          refine jr_ic rfl ?_
          refine jr_icmp_eq rfl (fun c28 => ?_) (fun c28 => ?_)
          · have hr4 : jT_rk (jT_K B sz t1) = 4 := jT_rk4.mpr (Or.inr (Or.inr (jn_eq (show nI (jT_K B sz t1) = nI 61 from c28) (by omega) (by decide))))
            have hgt1 := jT_f_gt (B := B) (sz := sz) (t := t1) (jT_rk_lo (by omega))
            refine jr_aload rfl rfl ?_
            refine jr_getR rfl rfl rfl rfl (Or.inl rfl) ?_
            refine jr_cv0 (mc' := 0) (ms' := 0) rfl jm_Tape_take_n jm_Tape_take_f rfl rfl rfl rfl rfl rfl rfl (Nat.zero_le _) (Nat.zero_le _) ?_
            refine ev_take (B := B) (sz := sz) y1.1 y1.2.1.1 (jT_next y1.1 y1.2.2.1 (jT_rk_lo (by omega))) (fun h5 g5 c5 => ?_)
            have z55 := jZ_take y1 g5 c5 (jT_next y1.1 y1.2.2.1 (jT_rk_lo (by omega)))
            refine jr_aload rfl rfl ?_
            refine jr_ic rfl ?_
            refine jr_iload rfl rfl ?_
            refine jr_cv2 (mc' := 0) (ms' := 0) rfl jm_Rdr_readChain_n jm_Rdr_readChain_f rfl rfl rfl rfl rfl rfl rfl (Nat.zero_le _) (Nat.zero_le _) ?_
            refine hsub d h5 (t1 + 1) (u + x) (v + x) c1 i _ z55 hin ⟨by omega, by omega, by have := @jT_p_le B sz t1; split at y7 <;> omega, b4⟩ (fun r h6 o6 => ?_)
            rcases o6 with ⟨rfl, x2, t2, c2, w1, w2, w3, w4, w5, w6, w7, w8, w9⟩ | ⟨rfl, kd, pl, w1, w2, w3, w4, w5⟩
            · refine jr_if_ne rfl (fun _ => ?_) (fun z => absurd z (by decide))
              refine jr_aload rfl rfl ?_
              refine jr_getM rfl rfl rfl rfl w1.2.2.2.1 ?_
              refine jr_iload rfl rfl ?_
              refine jr_ineg rfl ?_
              refine jr_cv1 (mc' := 0) (ms' := 0) rfl jm_Rep_emit_n jm_Rep_emit_f rfl rfl rfl rfl rfl rfl rfl (Nat.zero_le _) (Nat.zero_le _) ?_
              refine ev_emit (c := c2) w1.2.2.2.2.2.2.1 (by have := @jT_p_le B sz t2; split at y7 <;> split at w7 <;> omega) (jZ_asks w1) (fun h7 e7 => ?_)
              refine jr_ic rfl ?_
              refine jr_zret rfl rfl rfl (Nat.zero_le _) (Nat.zero_le _) ?_
              have htr := jt_trs (k := jT_K B sz t1) (by omega)
              have hD2 : ∀ q, q < c2 → jh_I h7 25 ρ q = jh_I h6 25 ρ q := fun q hq => by rw [e7.2.2.1, jg_un (by omega)]
              have hD1 : ∀ q, q < c1 → jh_I h7 25 ρ q = jh_I h4 25 ρ q := fun q hq => (hD2 q (by omega)).trans ((w2.2.2.2.2.2.2 q hq).trans (congrFun (g5.1 25 ρ (by decide)) q))
              refine k _ _ (Or.inl ⟨rfl, x + x2, t2, c2 + 1, by rw [← Nat.add_assoc, ← Nat.add_assoc]; exact jZ_emit w1 e7, jZ_F_t y3 y2 (jZ_F_t (Nat.le_refl c1) (jZ_F_G g5) (jZ_F_t w3 w2 (jZ_F_E e7))), by omega, by omega, by omega, by omega, ?_, ?_, ?_⟩)
              · rw [if_neg hK] at y7 ⊢
                split at w7 <;> omega
              · have hn3 := jT_rk_n3 (jT_K B sz t2)
                omega
              · exact jTR_rel y3 w3 (by have := @jT_p_le B sz t2; split at y7 <;> split at w7 <;> omega) hK (jTR_D y3 hD1 y9) hr4 (jTR_D w3 hD2 w9) y4 (by rw [e7.2.2.1, jg_us]; exact htr.1) htr.2
            · refine jr_if_ne rfl (fun z => absurd (by decide) z) (fun _ => ?_)
              refine jr_ic rfl ?_
              refine jr_zret rfl rfl rfl (Nat.zero_le _) (Nat.zero_le _) ?_
              exact k _ _ (Or.inr ⟨rfl, kd, pl, w1, w2, w3, jZ_F_t y3 y2 (jZ_F_t (Nat.le_refl c1) (jZ_F_G g5) w4), jTB_rel y3 hK (jTR_D y3 (fun q hq => (w4.2.2.2.2.2.2 q hq).trans (congrFun (g5.1 25 ρ (by decide)) q)) y9) hr4 w5⟩)
          · refine jr_ic rfl ?_
            refine jr_zret rfl rfl rfl (Nat.zero_le _) (Nat.zero_le _) ?_
            have hn4 : jT_rk (jT_K B sz t1) ≠ 4 := fun y => by
              rcases jT_rk4.mp y with q | q | q
              · exact c22 (by rw [q]; rfl)
              · exact c25 (by rw [q]; rfl)
              · exact c28 (by rw [q]; rfl)
            have hn3 := jT_rk_n3 (jT_K B sz t1)
            exact k _ _ (Or.inl ⟨rfl, x, t1, c1, y1, y2, y3, y4, y5, y6, y7, by omega, jTR_sum y9 hn4 hK⟩)
    · refine jr_if_ne rfl (fun z => absurd (by decide) z) (fun _ => ?_)
      refine jr_ic rfl ?_
      refine jr_zret rfl rfl rfl (Nat.zero_le _) (Nat.zero_le _) ?_
      exact k _ _ (Or.inr ⟨rfl, kd, pl, y1, y2, y3, y4, jTB_up (by decide) (by decide) (fun _ _ => hK) y5⟩)
theorem jT_ch0 (k : Nat) : jT_ch k = 0 ↔ jT_rk k = 1 := by
  unfold jT_ch jT_rk
  repeat' split
  all_goals omega
theorem jT_ch1 (k : Nat) : jT_ch k = 1 ↔ jT_rk k = 2 := by
  unfold jT_ch jT_rk
  repeat' split
  all_goals omega
theorem jT_ch3 (k : Nat) : jT_ch k = 3 ↔ jT_rk k = 5 := by
  unfold jT_ch jT_rk
  repeat' split
  all_goals omega
theorem jT_ch4 (k : Nat) : jT_ch k = 4 ↔ jT_rk k = 6 := by
  unfold jT_ch jT_rk
  repeat' split
  all_goals omega

theorem jSTEP_ch {B : Nat → Int32} {sz T β ρ n lv ρk θ2 off : Nat} (hlv2 : lv ≠ 2) (hlv4 : lv ≤ 4) (hρ6 : ρk ≤ 6) (hρ3 : ρk ≠ 3) (hρ4 : ρk ≠ 4) (hρ0 : 0 < ρk) (hθ2 : ρk < θ2) (hl3 : 3 ≤ lv + 1 → 3 < ρk ∧ ρk < 7) (hch : ∀ k, jT_ch k = lv ↔ jT_rk k = ρk) (hsub : jCH B sz T β ρ n (lv + 1) θ2 (ρk + 1) (off + 1)) : jCH B sz T β ρ n lv ρk ρk (off + 2) := fun d h t u v c i Q z hin hbd k => ev_chain hlv2 hlv4 hρ6 hρ3 hρ4 hρ0 hθ2 hl3 hch hsub z hin hbd k
theorem jSTEP {B : Nat → Int32} {sz T β ρ n : Nat} (h0 : ∀ m, n = m + 1 → jCH B sz T β ρ m 0 1 1 13) (h1 : ∀ m, n = m + 1 → jON B sz T β ρ m) : jCH B sz T β ρ n 0 1 1 13 ∧ jON B sz T β ρ n := by
  have hU : jUN B sz T β ρ n := jUN_mk h0
  have h5 : jCH B sz T β ρ n 5 7 7 7 := fun d h t u v c i Q z hin hbd k => ev_ch5 hU z hin hbd k
  have h4 : jCH B sz T β ρ n 4 6 6 8 := jSTEP_ch (by decide) (by decide) (by decide) (by decide) (by decide) (by decide) (by decide) (fun _ => ⟨by decide, by decide⟩) jT_ch4 h5
  have h3 : jCH B sz T β ρ n 3 5 5 9 := jSTEP_ch (by decide) (by decide) (by decide) (by decide) (by decide) (by decide) (by decide) (fun _ => ⟨by decide, by decide⟩) jT_ch3 h4
  have hO : jON B sz T β ρ n := fun d h t u v c i Q z hin hbd k => ev_one h1 h3 z hin hbd k
  have h2 : jCH B sz T β ρ n 2 4 3 11 := fun d h t u v c i Q z hin hbd k => ev_ch2 hO z hin hbd k
  have h1' : jCH B sz T β ρ n 1 2 2 12 := jSTEP_ch (by decide) (by decide) (by decide) (by decide) (by decide) (by decide) (by decide) (fun q => absurd q (by decide)) jT_ch1 h2
  exact ⟨jSTEP_ch (by decide) (by decide) (by decide) (by decide) (by decide) (by decide) (by decide) (fun q => absurd q (by decide)) jT_ch0 h1', hO⟩
theorem jALL {B : Nat → Int32} {sz T β ρ : Nat} : ∀ n, jCH B sz T β ρ n 0 1 1 13 ∧ jON B sz T β ρ n := by
  intro n
  induction n with
  | zero => exact jSTEP (fun m e => absurd e (by omega)) (fun m e => absurd e (by omega))
  | succ n ih => exact jSTEP (fun m e => by obtain rfl : n = m := by omega
                                            exact ih.1) (fun m e => by obtain rfl : n = m := by omega
                                                                       exact ih.2)
