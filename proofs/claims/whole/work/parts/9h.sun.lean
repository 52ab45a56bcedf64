theorem jML_sun {h h' : jx_H} {B : Nat → Int32} {sz β t t' su sl : Nat} {V : Nat → Nat → Nat} {W : Nat → Nat → List Nat} {D : Nat → Int32} (x : jML h B sz β t V W D) (xt : jX_t h' B sz) (xm : jT_mc h' B sz t') (xg : jh_I h' 11 0 4 = 0) (xb : jh_I h' 11 0 44 = nI β) (xc : jh_I h' 11 0 45 = jh_I h 11 0 45) (e85 : jh_I h' 85 0 = upd (jh_I h 85 0) β 1)
    (e78 : jh_I h' 78 0 = upd (jh_I h 78 0) β (nI su)) (e79 : jh_I h' 79 0 = upd (jh_I h 79 0) β (nI sl)) (eI : ∀ a b, a ≠ 11 → a ≠ 78 → a ≠ 79 → a ≠ 85 → jh_I h' a b = jh_I h a b) (eL : ∀ a b, a ≠ 11 → jh_L h' a b = jh_L h a b) :
    jML h' B sz β t' (jv2 (jv2 (jv2 V 0 5 1) 0 8 su) 0 9 sl) W D := by
  obtain ⟨⟨-, -, -, -, y69, y45, -, -⟩, ⟨⟨a1, a2⟩, ⟨b1, b2⟩, ⟨c1, c2⟩, r, ⟨s1, s2⟩, s3, s4, s5, s6, s7⟩, d⟩ := x
  have f : ∀ a, a ≠ 11 → a ≠ 78 → a ≠ 79 → a ≠ 85 → jh_I h' a 0 = jh_I h a 0 := fun a => eI a 0
  have g := fun a (z : a ≠ 11) => eL a 0 z
  refine ⟨⟨xt, xm, xg, xb, by rw [f 69 (by decide) (by decide) (by decide) (by decide)]; exact y69, xc.trans y45, rfl, rfl⟩, ⟨⟨by rw [f 66 (by decide) (by decide) (by decide) (by decide)]; exact a1, fun j hj => by rw [f 70 (by decide) (by decide) (by decide) (by decide), f 71 (by decide) (by decide) (by decide) (by decide), g 90 (by decide)]; exact a2 j hj⟩, ⟨by rw [f 67 (by decide) (by decide) (by decide) (by decide)]; exact b1, fun p hp => by rw [f 72 (by decide) (by decide) (by decide) (by decide), g 91 (by decide)]; exact b2 p hp⟩,
    ⟨by rw [f 68 (by decide) (by decide) (by decide) (by decide)]; exact c1, fun p hp => ⟨?_, by rw [g 92 (by decide)]; exact (c2 p hp).2⟩⟩, fun w hw => jMr_s (r w hw) (f 82 (by decide) (by decide) (by decide) (by decide)) (f 83 (by decide) (by decide) (by decide) (by decide)) (f 89 (by decide) (by decide) (by decide) (by decide)) (f 93 (by decide) (by decide) (by decide) (by decide)),
    ⟨by rw [e85, jg_us]; rfl, fun q => by rw [e78, e79, jg_us, jg_us]; exact ⟨rfl, rfl⟩⟩, by rw [f 86 (by decide) (by decide) (by decide) (by decide)]; exact s3, by rw [f 80 (by decide) (by decide) (by decide) (by decide)]; exact s4, by rw [f 87 (by decide) (by decide) (by decide) (by decide)]; exact s5, by rw [f 81 (by decide) (by decide) (by decide) (by decide)]; exact s6, by rw [f 88 (by decide) (by decide) (by decide) (by decide)]; exact s7⟩, by rw [f 93 (by decide) (by decide) (by decide) (by decide), f 94 (by decide) (by decide) (by decide) (by decide)]; exact d⟩
  unfold jMd
  rw [f 73 (by decide) (by decide) (by decide) (by decide), f 74 (by decide) (by decide) (by decide) (by decide), f 75 (by decide) (by decide) (by decide) (by decide), f 76 (by decide) (by decide) (by decide) (by decide), f 77 (by decide) (by decide) (by decide) (by decide), f 84 (by decide) (by decide) (by decide) (by decide)]
  exact (c2 p hp).1
theorem nI_nle0 {a : Nat} (h : 0 < a) (h2 : a < 2 ^ 31) : ¬ nI a ≤ 0 := fun y => by
  have := jn_le (show nI a ≤ nI 0 from y) h2 (by decide)
  omega
theorem nI_ngt {a b : Nat} (h : a ≤ b) (h2 : b < 2 ^ 31) : ¬ nI b < nI a := fun y => by
  have := jn_lt (show nI b < nI a from y) h2 (by omega)
  omega
set_option maxHeartbeats 800000 in
set_option maxRecDepth 100000 in
theorem eM_sun_g {d : Nat} {h : jx_H} {Q : Option jx_V → jx_H → Prop} {h0 : jx_H} {B : Nat → Int32} {sz β t : Nat} {V : Nat → Nat → Nat} {W : Nat → Nat → List Nat} {D : Nat → Int32} (x : jML h B sz β t V W D) (F : jMF β h0 h) (hβ : β < 2) (k0 : jT_K B sz t = 2) (r0 : jT_v B sz (jT_p B sz t) ≤ 186) (k1 : jT_K B sz (t + 1) = 119) (k2 : jT_K B sz (t + 2) = 2) (r2 : jT_v B sz (jT_p B sz (t + 2)) ≤ 99) (k3 : jT_K B sz (t + 3) = 116) (k4 : jT_K B sz (t + 4) = 2) (r4 : jT_v B sz (jT_p B sz (t + 2)) < jT_v B sz (jT_p B sz (t + 4)) ∨ jT_v B sz (jT_p B sz (t + 4)) = 0) (r5 : 1 ≤ jT_v B sz (jT_p B sz (t + 4)) ∧ jT_v B sz (jT_p B sz (t + 4)) ≤ 99) (k : ∀ h', jMF β h0 h' → jML h' B sz β (t + 5) (jv2 (jv2 (jv2 V 0 5 1) 0 8 ((jT_v B sz (jT_p B sz t)) * (jT_v B sz (jT_p B sz (t + 4))) + (jT_v B sz (jT_p B sz (t + 2))))) 0 9 (jT_v B sz (jT_p B sz (t + 4)))) W D → Q none h')  : jx_Ev jm_MD_readSun (d + 8) 0 0 false 1 [jv_r 11 0] h Q := by
  show jx_W (jm_MD_readSun, d + 8, 0, 0, false, 1, _) Q 0 0 0 [some (jv_r 11 0), none, none, none] [] _
  obtain ⟨⟨t0, m0, f0, b0, -, -, -, -⟩, -, -⟩ := id x
  refine jr_aload rfl rfl ?_
  refine jr_getR rfl rfl rfl rfl (Or.inl rfl) ?_
  refine jr_aload rfl rfl ?_
  refine jr_getI rfl rfl ?_
  refine jr_ic rfl ?_
  refine jr_zast (len := 2) rfl rfl b0 (by omega) ?_
  refine jr_aload rfl rfl ?_
  refine jr_ic rfl ?_
  refine jr_ic rfl ?_
  refine jr_cv2 (mc' := 0) (ms' := 0) rfl jm_MD_numeral_n jm_MD_numeral_f rfl rfl rfl rfl rfl rfl rfl (Nat.zero_le _) (Nat.zero_le _) ?_
  refine eM_num_y (B := B) (sz := sz) (lo := 0) (hi := 186) (t := t) t0 m0 f0 (by omega) (by omega) k0 (Nat.zero_le _) r0 (fun h1 g1 m1 => ?_)
  have t1 := jX_t_MG g1 t0
  have f1 : jh_I h1 11 0 4 = 0 := (g1.2.2.2 4 (by decide)).trans f0
  have b1 : jh_I h1 11 0 44 = nI β := (g1.2.2.2 44 (by decide)).trans b0
  refine jr_ist1 rfl rfl ?_
  refine jr_aload rfl rfl ?_
  refine jr_lc rfl ?_
  refine jr_ic rfl ?_
  refine jr_ic rfl ?_
  refine jr_cv3 (mc' := 0) (ms' := 0) rfl jm_MD_after_n jm_MD_after_f rfl rfl rfl rfl rfl rfl rfl (Nat.zero_le _) (Nat.zero_le _) ?_
  show jx_W (jm_MD_after, _, _, _, _, _, _) _ 0 0 0 [some _, some _, none, some _, some _] [] _
  refine jr_aload rfl rfl ?_
  refine jr_aload rfl rfl ?_
  refine jr_lload rfl rfl ?_
  refine jr_cv1 (mc' := 0) (ms' := 0) rfl jm_MD_isWord_n jm_MD_isWord_f rfl rfl rfl rfl rfl rfl rfl (Nat.zero_le _) (Nat.zero_le _) ?_
  refine eM_isWord (B := B) (sz := sz) (t := t + 1) m1 (i := 19) (by decide) jT_W19 ?_
  refine jr_cv1 (mc' := 0) (ms' := 0) rfl jm_MD_must_n jm_MD_must_f rfl rfl rfl rfl rfl rfl rfl (Nat.zero_le _) (Nat.zero_le _) ?_
  refine eM_must_y (B := B) (sz := sz) (t := t + 1) t1 m1 f1 (by rw [if_pos k1]; decide) (fun h2 g2 m2 => ?_)
  have t2 := jX_t_MG g2 t1
  have f2 : jh_I h2 11 0 4 = 0 := (g2.2.2.2 4 (by decide)).trans f1
  have b2 : jh_I h2 11 0 44 = nI β := (g2.2.2.2 44 (by decide)).trans b1
  refine jr_aload rfl rfl ?_
  refine jr_iload rfl rfl ?_
  refine jr_iload rfl rfl ?_
  refine jr_cv2 (mc' := 0) (ms' := 0) rfl jm_MD_numeral_n jm_MD_numeral_f rfl rfl rfl rfl rfl rfl rfl (Nat.zero_le _) (Nat.zero_le _) ?_
  refine eM_num_y (B := B) (sz := sz) (lo := 0) (hi := 99) (t := t + 2) t2 m2 f2 (by omega) (by omega) k2 (Nat.zero_le _) r2 (fun h3 g3 m3 => ?_)
  have t3 := jX_t_MG g3 t2
  have f3 : jh_I h3 11 0 4 = 0 := (g3.2.2.2 4 (by decide)).trans f2
  have b3 : jh_I h3 11 0 44 = nI β := (g3.2.2.2 44 (by decide)).trans b2
  refine jr_iret rfl rfl (Nat.zero_le _) (Nat.zero_le _) ?_
  refine jr_ist2 rfl rfl ?_
  refine jr_aload rfl rfl ?_
  refine jr_aload rfl rfl ?_
  refine jr_lc rfl ?_
  refine jr_cv1 (mc' := 0) (ms' := 0) rfl jm_MD_isWord_n jm_MD_isWord_f rfl rfl rfl rfl rfl rfl rfl (Nat.zero_le _) (Nat.zero_le _) ?_
  refine eM_isWord (B := B) (sz := sz) (t := t + 3) m3 (i := 16) (by decide) jT_W16 ?_
  refine jr_cv1 (mc' := 0) (ms' := 0) rfl jm_MD_must_n jm_MD_must_f rfl rfl rfl rfl rfl rfl rfl (Nat.zero_le _) (Nat.zero_le _) ?_
  refine eM_must_y (B := B) (sz := sz) (t := t + 3) t3 m3 f3 (by rw [if_pos k3]; decide) (fun h4 g4 m4 => ?_)
  have t4 := jX_t_MG g4 t3
  have f4 : jh_I h4 11 0 4 = 0 := (g4.2.2.2 4 (by decide)).trans f3
  have b4 : jh_I h4 11 0 44 = nI β := (g4.2.2.2 44 (by decide)).trans b3
  refine jr_aload rfl rfl ?_
  refine jr_cv0 (mc' := 0) (ms' := 0) rfl jm_MD_isGood_n jm_MD_isGood_f rfl rfl rfl rfl rfl rfl rfl (Nat.zero_le _) (Nat.zero_le _) ?_
  show jx_W (jm_MD_isGood, _, _, _, _, _, _) _ 0 0 0 [some _] [] _
  refine jr_aload rfl rfl ?_
  refine jr_getI rfl rfl ?_
  refine jr_if_ne rfl (fun z => absurd f4 z) (fun _ => ?_)
  refine jr_ic rfl ?_
  refine jr_goto rfl ?_
  refine jr_zret rfl rfl rfl (Nat.zero_le _) (Nat.zero_le _) ?_
  refine jr_if_eq rfl (fun z => absurd z (by decide)) (fun _ => ?_)
  refine jr_aload rfl rfl ?_
  refine jr_getI rfl rfl ?_
  refine jr_ic rfl ?_
  rw [show jh_I h4 11 0 8 = nI (jT_mt (jT_K B sz (t + 4))) from m4.2.2.1]
  refine jr_icmp_ne rfl (fun z => absurd (jT_mt4.mpr k4) z) (fun _ => ?_)
  refine jr_aload rfl rfl ?_
  refine jr_getI rfl rfl ?_
  rw [show jh_I h4 11 0 9 = nI (jT_v B sz (jT_p B sz (t + 4))) from m4.2.2.2.1 k4]
  refine jr_if_le rfl (fun c31 => ?_) (fun c31 => ?_)
  · refine jr_aload rfl rfl ?_
    refine jr_ic rfl ?_
    refine jr_ic rfl ?_
    refine jr_cv2 (mc' := 0) (ms' := 0) rfl jm_MD_numeral_n jm_MD_numeral_f rfl rfl rfl rfl rfl rfl rfl (Nat.zero_le _) (Nat.zero_le _) ?_
    refine eM_num_y (B := B) (sz := sz) (lo := 1) (hi := 99) (t := t + 4) t4 m4 f4 (by omega) (by omega) k4 r5.1 r5.2 (fun h5 g5 m5 => ?_)
    have t5 := jX_t_MG g5 t4
    have f5 : jh_I h5 11 0 4 = 0 := (g5.2.2.2 4 (by decide)).trans f4
    have b5 : jh_I h5 11 0 44 = nI β := (g5.2.2.2 44 (by decide)).trans b4
    refine jr_ist3 rfl rfl ?_
    refine jr_aload rfl rfl ?_
    refine jr_getR rfl rfl rfl rfl (Or.inl rfl) ?_
    refine jr_aload rfl rfl ?_
    refine jr_getI rfl rfl ?_
    refine jr_iload rfl rfl ?_
    refine jr_iload rfl rfl ?_
    refine jr_imul rfl ?_
    refine jr_iload rfl rfl ?_
    refine jr_iadd rfl ?_
    rw [show nI (jT_v B sz (jT_p B sz t)) * nI (jT_v B sz (jT_p B sz (t + 4))) + nI (jT_v B sz (jT_p B sz (t + 2))) = nI ((jT_v B sz (jT_p B sz t)) * (jT_v B sz (jT_p B sz (t + 4))) + (jT_v B sz (jT_p B sz (t + 2)))) from jn_add (jn_mul rfl rfl) rfl]
    refine jr_iast (len := 2) rfl rfl b5 (by omega) ?_
    refine jr_aload rfl rfl ?_
    refine jr_getR rfl rfl rfl rfl (Or.inl rfl) ?_
    refine jr_aload rfl rfl ?_
    refine jr_getI rfl rfl ?_
    refine jr_iload rfl rfl ?_
    refine jr_iast (len := 2) rfl rfl b5 (by omega) ?_
    refine jr_vret rfl rfl (Nat.zero_le _) (Nat.zero_le _) ?_
    refine k _ (jMF_I (a := 79) (w := 1) (jMF_I (a := 78) (w := 1) (jMF_G (jMF_G (jMF_G (jMF_G (jMF_G (jMF_I (a := 85) (w := 1) (F) (by decide) (by decide) (by omega) (by omega)) g1) g2) g3) g4) g5) (by decide) (by decide) (by omega) (by omega)) (by decide) (by decide) (by omega) (by omega)) (jML_sun x t5 m5 f5 b5 ?_ ?_ ?_ ?_ ?_ ?_)
    · exact (g5.2.2.2 45 (by decide)).trans ((g4.2.2.2 45 (by decide)).trans ((g3.2.2.2 45 (by decide)).trans ((g2.2.2.2 45 (by decide)).trans (g1.2.2.2 45 (by decide)))))
    · exact (g5.1 85 0 (by decide)).trans ((g4.1 85 0 (by decide)).trans ((g3.1 85 0 (by decide)).trans ((g2.1 85 0 (by decide)).trans (g1.1 85 0 (by decide)))))
    · exact congrArg (fun F => upd F (β) (nI ((jT_v B sz (jT_p B sz t)) * (jT_v B sz (jT_p B sz (t + 4))) + (jT_v B sz (jT_p B sz (t + 2)))))) ((g5.1 78 0 (by decide)).trans ((g4.1 78 0 (by decide)).trans ((g3.1 78 0 (by decide)).trans ((g2.1 78 0 (by decide)).trans (g1.1 78 0 (by decide))))))
    · exact congrArg (fun F => upd F (β) (nI (jT_v B sz (jT_p B sz (t + 4))))) ((g5.1 79 0 (by decide)).trans ((g4.1 79 0 (by decide)).trans ((g3.1 79 0 (by decide)).trans ((g2.1 79 0 (by decide)).trans (g1.1 79 0 (by decide))))))
    · exact fun a b z11 z78 z79 z85 => (if_neg (fun y => z79 y.1)).trans ((if_neg (fun y => z78 y.1)).trans ((g5.1 a b z11).trans ((g4.1 a b z11).trans ((g3.1 a b z11).trans ((g2.1 a b z11).trans ((g1.1 a b z11).trans (if_neg (fun y => z85 y.1))))))))
    · exact fun a b z11 => (g5.2.1 a b z11).trans ((g4.2.1 a b z11).trans ((g3.2.1 a b z11).trans ((g2.2.1 a b z11).trans (g1.2.1 a b z11))))
  · refine jr_aload rfl rfl ?_
    refine jr_getI rfl rfl ?_
    refine jr_iload rfl rfl ?_
    rw [show jh_I h4 11 0 9 = nI (jT_v B sz (jT_p B sz (t + 4))) from m4.2.2.2.1 k4]
    refine jr_icmp_gt rfl (fun c35 => ?_) (fun c35 => ?_)
    · refine jr_aload rfl rfl ?_
      refine jr_ic rfl ?_
      refine jr_ic rfl ?_
      refine jr_cv2 (mc' := 0) (ms' := 0) rfl jm_MD_numeral_n jm_MD_numeral_f rfl rfl rfl rfl rfl rfl rfl (Nat.zero_le _) (Nat.zero_le _) ?_
      refine eM_num_y (B := B) (sz := sz) (lo := 1) (hi := 99) (t := t + 4) t4 m4 f4 (by omega) (by omega) k4 r5.1 r5.2 (fun h5 g5 m5 => ?_)
      have t5 := jX_t_MG g5 t4
      have f5 : jh_I h5 11 0 4 = 0 := (g5.2.2.2 4 (by decide)).trans f4
      have b5 : jh_I h5 11 0 44 = nI β := (g5.2.2.2 44 (by decide)).trans b4
      refine jr_ist3 rfl rfl ?_
      refine jr_aload rfl rfl ?_
      refine jr_getR rfl rfl rfl rfl (Or.inl rfl) ?_
      refine jr_aload rfl rfl ?_
      refine jr_getI rfl rfl ?_
      refine jr_iload rfl rfl ?_
      refine jr_iload rfl rfl ?_
      refine jr_imul rfl ?_
      refine jr_iload rfl rfl ?_
      refine jr_iadd rfl ?_
      rw [show nI (jT_v B sz (jT_p B sz t)) * nI (jT_v B sz (jT_p B sz (t + 4))) + nI (jT_v B sz (jT_p B sz (t + 2))) = nI ((jT_v B sz (jT_p B sz t)) * (jT_v B sz (jT_p B sz (t + 4))) + (jT_v B sz (jT_p B sz (t + 2)))) from jn_add (jn_mul rfl rfl) rfl]
      refine jr_iast (len := 2) rfl rfl b5 (by omega) ?_
      refine jr_aload rfl rfl ?_
      refine jr_getR rfl rfl rfl rfl (Or.inl rfl) ?_
      refine jr_aload rfl rfl ?_
      refine jr_getI rfl rfl ?_
      refine jr_iload rfl rfl ?_
      refine jr_iast (len := 2) rfl rfl b5 (by omega) ?_
      refine jr_vret rfl rfl (Nat.zero_le _) (Nat.zero_le _) ?_
      refine k _ (jMF_I (a := 79) (w := 1) (jMF_I (a := 78) (w := 1) (jMF_G (jMF_G (jMF_G (jMF_G (jMF_G (jMF_I (a := 85) (w := 1) (F) (by decide) (by decide) (by omega) (by omega)) g1) g2) g3) g4) g5) (by decide) (by decide) (by omega) (by omega)) (by decide) (by decide) (by omega) (by omega)) (jML_sun x t5 m5 f5 b5 ?_ ?_ ?_ ?_ ?_ ?_)
      · exact (g5.2.2.2 45 (by decide)).trans ((g4.2.2.2 45 (by decide)).trans ((g3.2.2.2 45 (by decide)).trans ((g2.2.2.2 45 (by decide)).trans (g1.2.2.2 45 (by decide)))))
      · exact (g5.1 85 0 (by decide)).trans ((g4.1 85 0 (by decide)).trans ((g3.1 85 0 (by decide)).trans ((g2.1 85 0 (by decide)).trans (g1.1 85 0 (by decide)))))
      · exact congrArg (fun F => upd F (β) (nI ((jT_v B sz (jT_p B sz t)) * (jT_v B sz (jT_p B sz (t + 4))) + (jT_v B sz (jT_p B sz (t + 2)))))) ((g5.1 78 0 (by decide)).trans ((g4.1 78 0 (by decide)).trans ((g3.1 78 0 (by decide)).trans ((g2.1 78 0 (by decide)).trans (g1.1 78 0 (by decide))))))
      · exact congrArg (fun F => upd F (β) (nI (jT_v B sz (jT_p B sz (t + 4))))) ((g5.1 79 0 (by decide)).trans ((g4.1 79 0 (by decide)).trans ((g3.1 79 0 (by decide)).trans ((g2.1 79 0 (by decide)).trans (g1.1 79 0 (by decide))))))
      · exact fun a b z11 z78 z79 z85 => (if_neg (fun y => z79 y.1)).trans ((if_neg (fun y => z78 y.1)).trans ((g5.1 a b z11).trans ((g4.1 a b z11).trans ((g3.1 a b z11).trans ((g2.1 a b z11).trans ((g1.1 a b z11).trans (if_neg (fun y => z85 y.1))))))))
      · exact fun a b z11 => (g5.2.1 a b z11).trans ((g4.2.1 a b z11).trans ((g3.2.1 a b z11).trans ((g2.2.1 a b z11).trans (g1.2.1 a b z11))))
    · exfalso
      have := jT_v_lt (B := B) (sz := sz) (t := t + 4) k4
      have q1 : 0 < jT_v B sz (jT_p B sz (t + 4)) := jn_nle (show ¬ nI (jT_v B sz (jT_p B sz (t + 4))) ≤ nI 0 from c31) (by omega) (by decide)
      have q2 := jn_nlt (show ¬ nI (jT_v B sz (jT_p B sz (t + 2))) < nI (jT_v B sz (jT_p B sz (t + 4))) from c35) (by omega) (by omega)
      omega

set_option maxHeartbeats 800000 in
set_option maxRecDepth 100000 in
theorem eM_sun_b0 {d : Nat} {h : jx_H} {Q : Option jx_V → jx_H → Prop} {h0 : jx_H} {B : Nat → Int32} {sz β t : Nat} {V : Nat → Nat → Nat} {W : Nat → Nat → List Nat} {D : Nat → Int32} (x : jML h B sz β t V W D) (F : jMF β h0 h) (hβ : β < 2) (k0 : ¬ jT_K B sz t = 2) (k : ∀ h', jMF β h0 h' → jh_I h' 11 0 4 = jX_kd (jT_K B sz t) → jPl h' (jT_p B sz t) → Q none h')  : jx_Ev jm_MD_readSun (d + 8) 0 0 false 1 [jv_r 11 0] h Q := by
  show jx_W (jm_MD_readSun, d + 8, 0, 0, false, 1, _) Q 0 0 0 [some (jv_r 11 0), none, none, none] [] _
  obtain ⟨⟨t0, m0, f0, b0, -, -, -, -⟩, -, -⟩ := id x
  refine jr_aload rfl rfl ?_
  refine jr_getR rfl rfl rfl rfl (Or.inl rfl) ?_
  refine jr_aload rfl rfl ?_
  refine jr_getI rfl rfl ?_
  refine jr_ic rfl ?_
  refine jr_zast (len := 2) rfl rfl b0 (by omega) ?_
  refine jr_aload rfl rfl ?_
  refine jr_ic rfl ?_
  refine jr_ic rfl ?_
  refine jr_cv2 (mc' := 0) (ms' := 0) rfl jm_MD_numeral_n jm_MD_numeral_f rfl rfl rfl rfl rfl rfl rfl (Nat.zero_le _) (Nat.zero_le _) ?_
  refine eM_num_n (B := B) (sz := sz) (lo := 0) (hi := 186) (t := t) t0 m0 f0 k0 (fun h1 g1 => ?_)
  have e1 : ¬ jh_I h1 11 0 4 = 0 := by rw [g1.2.2.2.1]; exact jX_kd_n _
  have m1 := jT_mc_ft g1 m0
  have b1 : jh_I h1 11 0 44 = nI β := (g1.2.2.1 44 (by decide) (by decide)).trans b0
  refine jr_ist1 rfl rfl ?_
  refine jr_aload rfl rfl ?_
  refine jr_lc rfl ?_
  refine jr_ic rfl ?_
  refine jr_ic rfl ?_
  refine jr_cv3 (mc' := 0) (ms' := 0) rfl jm_MD_after_n jm_MD_after_f rfl rfl rfl rfl rfl rfl rfl (Nat.zero_le _) (Nat.zero_le _) ?_
  show jx_W (jm_MD_after, _, _, _, _, _, _) _ 0 0 0 [some _, some _, none, some _, some _] [] _
  refine jr_aload rfl rfl ?_
  refine jr_aload rfl rfl ?_
  refine jr_lload rfl rfl ?_
  refine jr_cv1 (mc' := 0) (ms' := 0) rfl jm_MD_isWord_n jm_MD_isWord_f rfl rfl rfl rfl rfl rfl rfl (Nat.zero_le _) (Nat.zero_le _) ?_
  refine eM_isWord (B := B) (sz := sz) (t := t) m1 (i := 19) (by decide) jT_W19 ?_
  refine jr_cv1 (mc' := 0) (ms' := 0) rfl jm_MD_must_n jm_MD_must_f rfl rfl rfl rfl rfl rfl rfl (Nat.zero_le _) (Nat.zero_le _) ?_
  refine eM_must_b e1 ?_
  refine jr_aload rfl rfl ?_
  refine jr_iload rfl rfl ?_
  refine jr_iload rfl rfl ?_
  refine jr_cv2 (mc' := 0) (ms' := 0) rfl jm_MD_numeral_n jm_MD_numeral_f rfl rfl rfl rfl rfl rfl rfl (Nat.zero_le _) (Nat.zero_le _) ?_
  refine eM_num_b (lo := 0) (hi := 99) e1 ?_
  refine jr_iret rfl rfl (Nat.zero_le _) (Nat.zero_le _) ?_
  refine jr_ist2 rfl rfl ?_
  refine jr_aload rfl rfl ?_
  refine jr_aload rfl rfl ?_
  refine jr_lc rfl ?_
  refine jr_cv1 (mc' := 0) (ms' := 0) rfl jm_MD_isWord_n jm_MD_isWord_f rfl rfl rfl rfl rfl rfl rfl (Nat.zero_le _) (Nat.zero_le _) ?_
  refine eM_isWord (B := B) (sz := sz) (t := t) m1 (i := 16) (by decide) jT_W16 ?_
  refine jr_cv1 (mc' := 0) (ms' := 0) rfl jm_MD_must_n jm_MD_must_f rfl rfl rfl rfl rfl rfl rfl (Nat.zero_le _) (Nat.zero_le _) ?_
  refine eM_must_b e1 ?_
  refine jr_aload rfl rfl ?_
  refine jr_cv0 (mc' := 0) (ms' := 0) rfl jm_MD_isGood_n jm_MD_isGood_f rfl rfl rfl rfl rfl rfl rfl (Nat.zero_le _) (Nat.zero_le _) ?_
  show jx_W (jm_MD_isGood, _, _, _, _, _, _) _ 0 0 0 [some _] [] _
  refine jr_aload rfl rfl ?_
  refine jr_getI rfl rfl ?_
  refine jr_if_ne rfl (fun _ => ?_) (fun z => absurd z e1)
  refine jr_ic rfl ?_
  refine jr_zret rfl rfl rfl (Nat.zero_le _) (Nat.zero_le _) ?_
  refine jr_if_eq rfl (fun _ => ?_) (fun z => absurd (by decide) z)
  refine jr_aload rfl rfl ?_
  refine jr_ic rfl ?_
  refine jr_ic rfl ?_
  refine jr_cv2 (mc' := 0) (ms' := 0) rfl jm_MD_numeral_n jm_MD_numeral_f rfl rfl rfl rfl rfl rfl rfl (Nat.zero_le _) (Nat.zero_le _) ?_
  refine eM_num_b (lo := 1) (hi := 99) e1 ?_
  refine jr_ist3 rfl rfl ?_
  refine jr_aload rfl rfl ?_
  refine jr_getR rfl rfl rfl rfl (Or.inl rfl) ?_
  refine jr_aload rfl rfl ?_
  refine jr_getI rfl rfl ?_
  refine jr_iload rfl rfl ?_
  refine jr_iload rfl rfl ?_
  refine jr_imul rfl ?_
  refine jr_iload rfl rfl ?_
  refine jr_iadd rfl ?_
  rw [show nI 0 * nI 1 + nI 0 = nI (0 * 1 + 0) from jn_add (jn_mul rfl rfl) rfl]
  refine jr_iast (len := 2) rfl rfl b1 (by omega) ?_
  refine jr_aload rfl rfl ?_
  refine jr_getR rfl rfl rfl rfl (Or.inl rfl) ?_
  refine jr_aload rfl rfl ?_
  refine jr_getI rfl rfl ?_
  refine jr_iload rfl rfl ?_
  refine jr_iast (len := 2) rfl rfl b1 (by omega) ?_
  refine jr_vret rfl rfl (Nat.zero_le _) (Nat.zero_le _) ?_
  exact k _ (jMF_I (a := 79) (w := 1) (jMF_I (a := 78) (w := 1) (jMF_ft (jMF_I (a := 85) (w := 1) (F) (by decide) (by decide) (by omega) (by omega)) g1) (by decide) (by decide) (by omega) (by omega)) (by decide) (by decide) (by omega) (by omega)) g1.2.2.2.1 g1.2.2.2.2

set_option maxHeartbeats 800000 in
set_option maxRecDepth 100000 in
theorem eM_sun_b1 {d : Nat} {h : jx_H} {Q : Option jx_V → jx_H → Prop} {h0 : jx_H} {B : Nat → Int32} {sz β t : Nat} {V : Nat → Nat → Nat} {W : Nat → Nat → List Nat} {D : Nat → Int32} (x : jML h B sz β t V W D) (F : jMF β h0 h) (hβ : β < 2) (k0 : jT_K B sz t = 2) (r0 : jT_v B sz (jT_p B sz t) < 0 ∨ 186 < jT_v B sz (jT_p B sz t)) (k : ∀ h', jMF β h0 h' → jh_I h' 11 0 4 = 4 → jPl h' (jT_p B sz t) → Q none h')  : jx_Ev jm_MD_readSun (d + 8) 0 0 false 1 [jv_r 11 0] h Q := by
  show jx_W (jm_MD_readSun, d + 8, 0, 0, false, 1, _) Q 0 0 0 [some (jv_r 11 0), none, none, none] [] _
  obtain ⟨⟨t0, m0, f0, b0, -, -, -, -⟩, -, -⟩ := id x
  refine jr_aload rfl rfl ?_
  refine jr_getR rfl rfl rfl rfl (Or.inl rfl) ?_
  refine jr_aload rfl rfl ?_
  refine jr_getI rfl rfl ?_
  refine jr_ic rfl ?_
  refine jr_zast (len := 2) rfl rfl b0 (by omega) ?_
  refine jr_aload rfl rfl ?_
  refine jr_ic rfl ?_
  refine jr_ic rfl ?_
  refine jr_cv2 (mc' := 0) (ms' := 0) rfl jm_MD_numeral_n jm_MD_numeral_f rfl rfl rfl rfl rfl rfl rfl (Nat.zero_le _) (Nat.zero_le _) ?_
  refine eM_num_r (B := B) (sz := sz) (lo := 0) (hi := 186) (t := t) t0 m0 f0 (by omega) (by omega) k0 r0 (fun h1 g1 => ?_)
  have e1 : ¬ jh_I h1 11 0 4 = 0 := by rw [g1.2.2.2.1]; exact (by decide)
  have m1 := jT_mc_ft g1 m0
  have b1 : jh_I h1 11 0 44 = nI β := (g1.2.2.1 44 (by decide) (by decide)).trans b0
  refine jr_ist1 rfl rfl ?_
  refine jr_aload rfl rfl ?_
  refine jr_lc rfl ?_
  refine jr_ic rfl ?_
  refine jr_ic rfl ?_
  refine jr_cv3 (mc' := 0) (ms' := 0) rfl jm_MD_after_n jm_MD_after_f rfl rfl rfl rfl rfl rfl rfl (Nat.zero_le _) (Nat.zero_le _) ?_
  show jx_W (jm_MD_after, _, _, _, _, _, _) _ 0 0 0 [some _, some _, none, some _, some _] [] _
  refine jr_aload rfl rfl ?_
  refine jr_aload rfl rfl ?_
  refine jr_lload rfl rfl ?_
  refine jr_cv1 (mc' := 0) (ms' := 0) rfl jm_MD_isWord_n jm_MD_isWord_f rfl rfl rfl rfl rfl rfl rfl (Nat.zero_le _) (Nat.zero_le _) ?_
  refine eM_isWord (B := B) (sz := sz) (t := t) m1 (i := 19) (by decide) jT_W19 ?_
  refine jr_cv1 (mc' := 0) (ms' := 0) rfl jm_MD_must_n jm_MD_must_f rfl rfl rfl rfl rfl rfl rfl (Nat.zero_le _) (Nat.zero_le _) ?_
  refine eM_must_b e1 ?_
  refine jr_aload rfl rfl ?_
  refine jr_iload rfl rfl ?_
  refine jr_iload rfl rfl ?_
  refine jr_cv2 (mc' := 0) (ms' := 0) rfl jm_MD_numeral_n jm_MD_numeral_f rfl rfl rfl rfl rfl rfl rfl (Nat.zero_le _) (Nat.zero_le _) ?_
  refine eM_num_b (lo := 0) (hi := 99) e1 ?_
  refine jr_iret rfl rfl (Nat.zero_le _) (Nat.zero_le _) ?_
  refine jr_ist2 rfl rfl ?_
  refine jr_aload rfl rfl ?_
  refine jr_aload rfl rfl ?_
  refine jr_lc rfl ?_
  refine jr_cv1 (mc' := 0) (ms' := 0) rfl jm_MD_isWord_n jm_MD_isWord_f rfl rfl rfl rfl rfl rfl rfl (Nat.zero_le _) (Nat.zero_le _) ?_
  refine eM_isWord (B := B) (sz := sz) (t := t) m1 (i := 16) (by decide) jT_W16 ?_
  refine jr_cv1 (mc' := 0) (ms' := 0) rfl jm_MD_must_n jm_MD_must_f rfl rfl rfl rfl rfl rfl rfl (Nat.zero_le _) (Nat.zero_le _) ?_
  refine eM_must_b e1 ?_
  refine jr_aload rfl rfl ?_
  refine jr_cv0 (mc' := 0) (ms' := 0) rfl jm_MD_isGood_n jm_MD_isGood_f rfl rfl rfl rfl rfl rfl rfl (Nat.zero_le _) (Nat.zero_le _) ?_
  show jx_W (jm_MD_isGood, _, _, _, _, _, _) _ 0 0 0 [some _] [] _
  refine jr_aload rfl rfl ?_
  refine jr_getI rfl rfl ?_
  refine jr_if_ne rfl (fun _ => ?_) (fun z => absurd z e1)
  refine jr_ic rfl ?_
  refine jr_zret rfl rfl rfl (Nat.zero_le _) (Nat.zero_le _) ?_
  refine jr_if_eq rfl (fun _ => ?_) (fun z => absurd (by decide) z)
  refine jr_aload rfl rfl ?_
  refine jr_ic rfl ?_
  refine jr_ic rfl ?_
  refine jr_cv2 (mc' := 0) (ms' := 0) rfl jm_MD_numeral_n jm_MD_numeral_f rfl rfl rfl rfl rfl rfl rfl (Nat.zero_le _) (Nat.zero_le _) ?_
  refine eM_num_b (lo := 1) (hi := 99) e1 ?_
  refine jr_ist3 rfl rfl ?_
  refine jr_aload rfl rfl ?_
  refine jr_getR rfl rfl rfl rfl (Or.inl rfl) ?_
  refine jr_aload rfl rfl ?_
  refine jr_getI rfl rfl ?_
  refine jr_iload rfl rfl ?_
  refine jr_iload rfl rfl ?_
  refine jr_imul rfl ?_
  refine jr_iload rfl rfl ?_
  refine jr_iadd rfl ?_
  rw [show nI 0 * nI 1 + nI 0 = nI (0 * 1 + 0) from jn_add (jn_mul rfl rfl) rfl]
  refine jr_iast (len := 2) rfl rfl b1 (by omega) ?_
  refine jr_aload rfl rfl ?_
  refine jr_getR rfl rfl rfl rfl (Or.inl rfl) ?_
  refine jr_aload rfl rfl ?_
  refine jr_getI rfl rfl ?_
  refine jr_iload rfl rfl ?_
  refine jr_iast (len := 2) rfl rfl b1 (by omega) ?_
  refine jr_vret rfl rfl (Nat.zero_le _) (Nat.zero_le _) ?_
  exact k _ (jMF_I (a := 79) (w := 1) (jMF_I (a := 78) (w := 1) (jMF_ft (jMF_I (a := 85) (w := 1) (F) (by decide) (by decide) (by omega) (by omega)) g1) (by decide) (by decide) (by omega) (by omega)) (by decide) (by decide) (by omega) (by omega)) g1.2.2.2.1 g1.2.2.2.2

set_option maxHeartbeats 800000 in
set_option maxRecDepth 100000 in
theorem eM_sun_b2 {d : Nat} {h : jx_H} {Q : Option jx_V → jx_H → Prop} {h0 : jx_H} {B : Nat → Int32} {sz β t : Nat} {V : Nat → Nat → Nat} {W : Nat → Nat → List Nat} {D : Nat → Int32} (x : jML h B sz β t V W D) (F : jMF β h0 h) (hβ : β < 2) (k0 : jT_K B sz t = 2) (r0 : jT_v B sz (jT_p B sz t) ≤ 186) (k1 : ¬ jT_K B sz (t + 1) = 119) (k : ∀ h', jMF β h0 h' → jh_I h' 11 0 4 = jX_kd (jT_K B sz (t + 1)) → jPl h' (jT_p B sz (t + 1)) → Q none h')  : jx_Ev jm_MD_readSun (d + 8) 0 0 false 1 [jv_r 11 0] h Q := by
  show jx_W (jm_MD_readSun, d + 8, 0, 0, false, 1, _) Q 0 0 0 [some (jv_r 11 0), none, none, none] [] _
  obtain ⟨⟨t0, m0, f0, b0, -, -, -, -⟩, -, -⟩ := id x
  refine jr_aload rfl rfl ?_
  refine jr_getR rfl rfl rfl rfl (Or.inl rfl) ?_
  refine jr_aload rfl rfl ?_
  refine jr_getI rfl rfl ?_
  refine jr_ic rfl ?_
  refine jr_zast (len := 2) rfl rfl b0 (by omega) ?_
  refine jr_aload rfl rfl ?_
  refine jr_ic rfl ?_
  refine jr_ic rfl ?_
  refine jr_cv2 (mc' := 0) (ms' := 0) rfl jm_MD_numeral_n jm_MD_numeral_f rfl rfl rfl rfl rfl rfl rfl (Nat.zero_le _) (Nat.zero_le _) ?_
  refine eM_num_y (B := B) (sz := sz) (lo := 0) (hi := 186) (t := t) t0 m0 f0 (by omega) (by omega) k0 (Nat.zero_le _) r0 (fun h1 g1 m1 => ?_)
  have t1 := jX_t_MG g1 t0
  have f1 : jh_I h1 11 0 4 = 0 := (g1.2.2.2 4 (by decide)).trans f0
  have b1 : jh_I h1 11 0 44 = nI β := (g1.2.2.2 44 (by decide)).trans b0
  refine jr_ist1 rfl rfl ?_
  refine jr_aload rfl rfl ?_
  refine jr_lc rfl ?_
  refine jr_ic rfl ?_
  refine jr_ic rfl ?_
  refine jr_cv3 (mc' := 0) (ms' := 0) rfl jm_MD_after_n jm_MD_after_f rfl rfl rfl rfl rfl rfl rfl (Nat.zero_le _) (Nat.zero_le _) ?_
  show jx_W (jm_MD_after, _, _, _, _, _, _) _ 0 0 0 [some _, some _, none, some _, some _] [] _
  refine jr_aload rfl rfl ?_
  refine jr_aload rfl rfl ?_
  refine jr_lload rfl rfl ?_
  refine jr_cv1 (mc' := 0) (ms' := 0) rfl jm_MD_isWord_n jm_MD_isWord_f rfl rfl rfl rfl rfl rfl rfl (Nat.zero_le _) (Nat.zero_le _) ?_
  refine eM_isWord (B := B) (sz := sz) (t := t + 1) m1 (i := 19) (by decide) jT_W19 ?_
  refine jr_cv1 (mc' := 0) (ms' := 0) rfl jm_MD_must_n jm_MD_must_f rfl rfl rfl rfl rfl rfl rfl (Nat.zero_le _) (Nat.zero_le _) ?_
  refine eM_must_n (B := B) (sz := sz) (t := t + 1) t1 m1 f1 (if_neg k1) (fun h2 g2 => ?_)
  have e2 : ¬ jh_I h2 11 0 4 = 0 := by rw [g2.2.2.2.1]; exact jX_kd_n _
  have m2 := jT_mc_ft g2 m1
  have b2 : jh_I h2 11 0 44 = nI β := (g2.2.2.1 44 (by decide) (by decide)).trans b1
  refine jr_aload rfl rfl ?_
  refine jr_iload rfl rfl ?_
  refine jr_iload rfl rfl ?_
  refine jr_cv2 (mc' := 0) (ms' := 0) rfl jm_MD_numeral_n jm_MD_numeral_f rfl rfl rfl rfl rfl rfl rfl (Nat.zero_le _) (Nat.zero_le _) ?_
  refine eM_num_b (lo := 0) (hi := 99) e2 ?_
  refine jr_iret rfl rfl (Nat.zero_le _) (Nat.zero_le _) ?_
  refine jr_ist2 rfl rfl ?_
  refine jr_aload rfl rfl ?_
  refine jr_aload rfl rfl ?_
  refine jr_lc rfl ?_
  refine jr_cv1 (mc' := 0) (ms' := 0) rfl jm_MD_isWord_n jm_MD_isWord_f rfl rfl rfl rfl rfl rfl rfl (Nat.zero_le _) (Nat.zero_le _) ?_
  refine eM_isWord (B := B) (sz := sz) (t := t + 1) m2 (i := 16) (by decide) jT_W16 ?_
  refine jr_cv1 (mc' := 0) (ms' := 0) rfl jm_MD_must_n jm_MD_must_f rfl rfl rfl rfl rfl rfl rfl (Nat.zero_le _) (Nat.zero_le _) ?_
  refine eM_must_b e2 ?_
  refine jr_aload rfl rfl ?_
  refine jr_cv0 (mc' := 0) (ms' := 0) rfl jm_MD_isGood_n jm_MD_isGood_f rfl rfl rfl rfl rfl rfl rfl (Nat.zero_le _) (Nat.zero_le _) ?_
  show jx_W (jm_MD_isGood, _, _, _, _, _, _) _ 0 0 0 [some _] [] _
  refine jr_aload rfl rfl ?_
  refine jr_getI rfl rfl ?_
  refine jr_if_ne rfl (fun _ => ?_) (fun z => absurd z e2)
  refine jr_ic rfl ?_
  refine jr_zret rfl rfl rfl (Nat.zero_le _) (Nat.zero_le _) ?_
  refine jr_if_eq rfl (fun _ => ?_) (fun z => absurd (by decide) z)
  refine jr_aload rfl rfl ?_
  refine jr_ic rfl ?_
  refine jr_ic rfl ?_
  refine jr_cv2 (mc' := 0) (ms' := 0) rfl jm_MD_numeral_n jm_MD_numeral_f rfl rfl rfl rfl rfl rfl rfl (Nat.zero_le _) (Nat.zero_le _) ?_
  refine eM_num_b (lo := 1) (hi := 99) e2 ?_
  refine jr_ist3 rfl rfl ?_
  refine jr_aload rfl rfl ?_
  refine jr_getR rfl rfl rfl rfl (Or.inl rfl) ?_
  refine jr_aload rfl rfl ?_
  refine jr_getI rfl rfl ?_
  refine jr_iload rfl rfl ?_
  refine jr_iload rfl rfl ?_
  refine jr_imul rfl ?_
  refine jr_iload rfl rfl ?_
  refine jr_iadd rfl ?_
  rw [show nI (jT_v B sz (jT_p B sz t)) * nI 1 + nI 0 = nI ((jT_v B sz (jT_p B sz t)) * 1 + 0) from jn_add (jn_mul rfl rfl) rfl]
  refine jr_iast (len := 2) rfl rfl b2 (by omega) ?_
  refine jr_aload rfl rfl ?_
  refine jr_getR rfl rfl rfl rfl (Or.inl rfl) ?_
  refine jr_aload rfl rfl ?_
  refine jr_getI rfl rfl ?_
  refine jr_iload rfl rfl ?_
  refine jr_iast (len := 2) rfl rfl b2 (by omega) ?_
  refine jr_vret rfl rfl (Nat.zero_le _) (Nat.zero_le _) ?_
  exact k _ (jMF_I (a := 79) (w := 1) (jMF_I (a := 78) (w := 1) (jMF_ft (jMF_G (jMF_I (a := 85) (w := 1) (F) (by decide) (by decide) (by omega) (by omega)) g1) g2) (by decide) (by decide) (by omega) (by omega)) (by decide) (by decide) (by omega) (by omega)) g2.2.2.2.1 g2.2.2.2.2

set_option maxHeartbeats 800000 in
set_option maxRecDepth 100000 in
theorem eM_sun_b3 {d : Nat} {h : jx_H} {Q : Option jx_V → jx_H → Prop} {h0 : jx_H} {B : Nat → Int32} {sz β t : Nat} {V : Nat → Nat → Nat} {W : Nat → Nat → List Nat} {D : Nat → Int32} (x : jML h B sz β t V W D) (F : jMF β h0 h) (hβ : β < 2) (k0 : jT_K B sz t = 2) (r0 : jT_v B sz (jT_p B sz t) ≤ 186) (k1 : jT_K B sz (t + 1) = 119) (k2 : ¬ jT_K B sz (t + 2) = 2) (k : ∀ h', jMF β h0 h' → jh_I h' 11 0 4 = jX_kd (jT_K B sz (t + 2)) → jPl h' (jT_p B sz (t + 2)) → Q none h')  : jx_Ev jm_MD_readSun (d + 8) 0 0 false 1 [jv_r 11 0] h Q := by
  show jx_W (jm_MD_readSun, d + 8, 0, 0, false, 1, _) Q 0 0 0 [some (jv_r 11 0), none, none, none] [] _
  obtain ⟨⟨t0, m0, f0, b0, -, -, -, -⟩, -, -⟩ := id x
  refine jr_aload rfl rfl ?_
  refine jr_getR rfl rfl rfl rfl (Or.inl rfl) ?_
  refine jr_aload rfl rfl ?_
  refine jr_getI rfl rfl ?_
  refine jr_ic rfl ?_
  refine jr_zast (len := 2) rfl rfl b0 (by omega) ?_
  refine jr_aload rfl rfl ?_
  refine jr_ic rfl ?_
  refine jr_ic rfl ?_
  refine jr_cv2 (mc' := 0) (ms' := 0) rfl jm_MD_numeral_n jm_MD_numeral_f rfl rfl rfl rfl rfl rfl rfl (Nat.zero_le _) (Nat.zero_le _) ?_
  refine eM_num_y (B := B) (sz := sz) (lo := 0) (hi := 186) (t := t) t0 m0 f0 (by omega) (by omega) k0 (Nat.zero_le _) r0 (fun h1 g1 m1 => ?_)
  have t1 := jX_t_MG g1 t0
  have f1 : jh_I h1 11 0 4 = 0 := (g1.2.2.2 4 (by decide)).trans f0
  have b1 : jh_I h1 11 0 44 = nI β := (g1.2.2.2 44 (by decide)).trans b0
  refine jr_ist1 rfl rfl ?_
  refine jr_aload rfl rfl ?_
  refine jr_lc rfl ?_
  refine jr_ic rfl ?_
  refine jr_ic rfl ?_
  refine jr_cv3 (mc' := 0) (ms' := 0) rfl jm_MD_after_n jm_MD_after_f rfl rfl rfl rfl rfl rfl rfl (Nat.zero_le _) (Nat.zero_le _) ?_
  show jx_W (jm_MD_after, _, _, _, _, _, _) _ 0 0 0 [some _, some _, none, some _, some _] [] _
  refine jr_aload rfl rfl ?_
  refine jr_aload rfl rfl ?_
  refine jr_lload rfl rfl ?_
  refine jr_cv1 (mc' := 0) (ms' := 0) rfl jm_MD_isWord_n jm_MD_isWord_f rfl rfl rfl rfl rfl rfl rfl (Nat.zero_le _) (Nat.zero_le _) ?_
  refine eM_isWord (B := B) (sz := sz) (t := t + 1) m1 (i := 19) (by decide) jT_W19 ?_
  refine jr_cv1 (mc' := 0) (ms' := 0) rfl jm_MD_must_n jm_MD_must_f rfl rfl rfl rfl rfl rfl rfl (Nat.zero_le _) (Nat.zero_le _) ?_
  refine eM_must_y (B := B) (sz := sz) (t := t + 1) t1 m1 f1 (by rw [if_pos k1]; decide) (fun h2 g2 m2 => ?_)
  have t2 := jX_t_MG g2 t1
  have f2 : jh_I h2 11 0 4 = 0 := (g2.2.2.2 4 (by decide)).trans f1
  have b2 : jh_I h2 11 0 44 = nI β := (g2.2.2.2 44 (by decide)).trans b1
  refine jr_aload rfl rfl ?_
  refine jr_iload rfl rfl ?_
  refine jr_iload rfl rfl ?_
  refine jr_cv2 (mc' := 0) (ms' := 0) rfl jm_MD_numeral_n jm_MD_numeral_f rfl rfl rfl rfl rfl rfl rfl (Nat.zero_le _) (Nat.zero_le _) ?_
  refine eM_num_n (B := B) (sz := sz) (lo := 0) (hi := 99) (t := t + 2) t2 m2 f2 k2 (fun h3 g3 => ?_)
  have e3 : ¬ jh_I h3 11 0 4 = 0 := by rw [g3.2.2.2.1]; exact jX_kd_n _
  have m3 := jT_mc_ft g3 m2
  have b3 : jh_I h3 11 0 44 = nI β := (g3.2.2.1 44 (by decide) (by decide)).trans b2
  refine jr_iret rfl rfl (Nat.zero_le _) (Nat.zero_le _) ?_
  refine jr_ist2 rfl rfl ?_
  refine jr_aload rfl rfl ?_
  refine jr_aload rfl rfl ?_
  refine jr_lc rfl ?_
  refine jr_cv1 (mc' := 0) (ms' := 0) rfl jm_MD_isWord_n jm_MD_isWord_f rfl rfl rfl rfl rfl rfl rfl (Nat.zero_le _) (Nat.zero_le _) ?_
  refine eM_isWord (B := B) (sz := sz) (t := t + 2) m3 (i := 16) (by decide) jT_W16 ?_
  refine jr_cv1 (mc' := 0) (ms' := 0) rfl jm_MD_must_n jm_MD_must_f rfl rfl rfl rfl rfl rfl rfl (Nat.zero_le _) (Nat.zero_le _) ?_
  refine eM_must_b e3 ?_
  refine jr_aload rfl rfl ?_
  refine jr_cv0 (mc' := 0) (ms' := 0) rfl jm_MD_isGood_n jm_MD_isGood_f rfl rfl rfl rfl rfl rfl rfl (Nat.zero_le _) (Nat.zero_le _) ?_
  show jx_W (jm_MD_isGood, _, _, _, _, _, _) _ 0 0 0 [some _] [] _
  refine jr_aload rfl rfl ?_
  refine jr_getI rfl rfl ?_
  refine jr_if_ne rfl (fun _ => ?_) (fun z => absurd z e3)
  refine jr_ic rfl ?_
  refine jr_zret rfl rfl rfl (Nat.zero_le _) (Nat.zero_le _) ?_
  refine jr_if_eq rfl (fun _ => ?_) (fun z => absurd (by decide) z)
  refine jr_aload rfl rfl ?_
  refine jr_ic rfl ?_
  refine jr_ic rfl ?_
  refine jr_cv2 (mc' := 0) (ms' := 0) rfl jm_MD_numeral_n jm_MD_numeral_f rfl rfl rfl rfl rfl rfl rfl (Nat.zero_le _) (Nat.zero_le _) ?_
  refine eM_num_b (lo := 1) (hi := 99) e3 ?_
  refine jr_ist3 rfl rfl ?_
  refine jr_aload rfl rfl ?_
  refine jr_getR rfl rfl rfl rfl (Or.inl rfl) ?_
  refine jr_aload rfl rfl ?_
  refine jr_getI rfl rfl ?_
  refine jr_iload rfl rfl ?_
  refine jr_iload rfl rfl ?_
  refine jr_imul rfl ?_
  refine jr_iload rfl rfl ?_
  refine jr_iadd rfl ?_
  rw [show nI (jT_v B sz (jT_p B sz t)) * nI 1 + nI 0 = nI ((jT_v B sz (jT_p B sz t)) * 1 + 0) from jn_add (jn_mul rfl rfl) rfl]
  refine jr_iast (len := 2) rfl rfl b3 (by omega) ?_
  refine jr_aload rfl rfl ?_
  refine jr_getR rfl rfl rfl rfl (Or.inl rfl) ?_
  refine jr_aload rfl rfl ?_
  refine jr_getI rfl rfl ?_
  refine jr_iload rfl rfl ?_
  refine jr_iast (len := 2) rfl rfl b3 (by omega) ?_
  refine jr_vret rfl rfl (Nat.zero_le _) (Nat.zero_le _) ?_
  exact k _ (jMF_I (a := 79) (w := 1) (jMF_I (a := 78) (w := 1) (jMF_ft (jMF_G (jMF_G (jMF_I (a := 85) (w := 1) (F) (by decide) (by decide) (by omega) (by omega)) g1) g2) g3) (by decide) (by decide) (by omega) (by omega)) (by decide) (by decide) (by omega) (by omega)) g3.2.2.2.1 g3.2.2.2.2

set_option maxHeartbeats 800000 in
set_option maxRecDepth 100000 in
theorem eM_sun_b4 {d : Nat} {h : jx_H} {Q : Option jx_V → jx_H → Prop} {h0 : jx_H} {B : Nat → Int32} {sz β t : Nat} {V : Nat → Nat → Nat} {W : Nat → Nat → List Nat} {D : Nat → Int32} (x : jML h B sz β t V W D) (F : jMF β h0 h) (hβ : β < 2) (k0 : jT_K B sz t = 2) (r0 : jT_v B sz (jT_p B sz t) ≤ 186) (k1 : jT_K B sz (t + 1) = 119) (k2 : jT_K B sz (t + 2) = 2) (r2 : jT_v B sz (jT_p B sz (t + 2)) < 0 ∨ 99 < jT_v B sz (jT_p B sz (t + 2))) (k : ∀ h', jMF β h0 h' → jh_I h' 11 0 4 = 4 → jPl h' (jT_p B sz (t + 2)) → Q none h')  : jx_Ev jm_MD_readSun (d + 8) 0 0 false 1 [jv_r 11 0] h Q := by
  show jx_W (jm_MD_readSun, d + 8, 0, 0, false, 1, _) Q 0 0 0 [some (jv_r 11 0), none, none, none] [] _
  obtain ⟨⟨t0, m0, f0, b0, -, -, -, -⟩, -, -⟩ := id x
  refine jr_aload rfl rfl ?_
  refine jr_getR rfl rfl rfl rfl (Or.inl rfl) ?_
  refine jr_aload rfl rfl ?_
  refine jr_getI rfl rfl ?_
  refine jr_ic rfl ?_
  refine jr_zast (len := 2) rfl rfl b0 (by omega) ?_
  refine jr_aload rfl rfl ?_
  refine jr_ic rfl ?_
  refine jr_ic rfl ?_
  refine jr_cv2 (mc' := 0) (ms' := 0) rfl jm_MD_numeral_n jm_MD_numeral_f rfl rfl rfl rfl rfl rfl rfl (Nat.zero_le _) (Nat.zero_le _) ?_
  refine eM_num_y (B := B) (sz := sz) (lo := 0) (hi := 186) (t := t) t0 m0 f0 (by omega) (by omega) k0 (Nat.zero_le _) r0 (fun h1 g1 m1 => ?_)
  have t1 := jX_t_MG g1 t0
  have f1 : jh_I h1 11 0 4 = 0 := (g1.2.2.2 4 (by decide)).trans f0
  have b1 : jh_I h1 11 0 44 = nI β := (g1.2.2.2 44 (by decide)).trans b0
  refine jr_ist1 rfl rfl ?_
  refine jr_aload rfl rfl ?_
  refine jr_lc rfl ?_
  refine jr_ic rfl ?_
  refine jr_ic rfl ?_
  refine jr_cv3 (mc' := 0) (ms' := 0) rfl jm_MD_after_n jm_MD_after_f rfl rfl rfl rfl rfl rfl rfl (Nat.zero_le _) (Nat.zero_le _) ?_
  show jx_W (jm_MD_after, _, _, _, _, _, _) _ 0 0 0 [some _, some _, none, some _, some _] [] _
  refine jr_aload rfl rfl ?_
  refine jr_aload rfl rfl ?_
  refine jr_lload rfl rfl ?_
  refine jr_cv1 (mc' := 0) (ms' := 0) rfl jm_MD_isWord_n jm_MD_isWord_f rfl rfl rfl rfl rfl rfl rfl (Nat.zero_le _) (Nat.zero_le _) ?_
  refine eM_isWord (B := B) (sz := sz) (t := t + 1) m1 (i := 19) (by decide) jT_W19 ?_
  refine jr_cv1 (mc' := 0) (ms' := 0) rfl jm_MD_must_n jm_MD_must_f rfl rfl rfl rfl rfl rfl rfl (Nat.zero_le _) (Nat.zero_le _) ?_
  refine eM_must_y (B := B) (sz := sz) (t := t + 1) t1 m1 f1 (by rw [if_pos k1]; decide) (fun h2 g2 m2 => ?_)
  have t2 := jX_t_MG g2 t1
  have f2 : jh_I h2 11 0 4 = 0 := (g2.2.2.2 4 (by decide)).trans f1
  have b2 : jh_I h2 11 0 44 = nI β := (g2.2.2.2 44 (by decide)).trans b1
  refine jr_aload rfl rfl ?_
  refine jr_iload rfl rfl ?_
  refine jr_iload rfl rfl ?_
  refine jr_cv2 (mc' := 0) (ms' := 0) rfl jm_MD_numeral_n jm_MD_numeral_f rfl rfl rfl rfl rfl rfl rfl (Nat.zero_le _) (Nat.zero_le _) ?_
  refine eM_num_r (B := B) (sz := sz) (lo := 0) (hi := 99) (t := t + 2) t2 m2 f2 (by omega) (by omega) k2 r2 (fun h3 g3 => ?_)
  have e3 : ¬ jh_I h3 11 0 4 = 0 := by rw [g3.2.2.2.1]; exact (by decide)
  have m3 := jT_mc_ft g3 m2
  have b3 : jh_I h3 11 0 44 = nI β := (g3.2.2.1 44 (by decide) (by decide)).trans b2
  refine jr_iret rfl rfl (Nat.zero_le _) (Nat.zero_le _) ?_
  refine jr_ist2 rfl rfl ?_
  refine jr_aload rfl rfl ?_
  refine jr_aload rfl rfl ?_
  refine jr_lc rfl ?_
  refine jr_cv1 (mc' := 0) (ms' := 0) rfl jm_MD_isWord_n jm_MD_isWord_f rfl rfl rfl rfl rfl rfl rfl (Nat.zero_le _) (Nat.zero_le _) ?_
  refine eM_isWord (B := B) (sz := sz) (t := t + 2) m3 (i := 16) (by decide) jT_W16 ?_
  refine jr_cv1 (mc' := 0) (ms' := 0) rfl jm_MD_must_n jm_MD_must_f rfl rfl rfl rfl rfl rfl rfl (Nat.zero_le _) (Nat.zero_le _) ?_
  refine eM_must_b e3 ?_
  refine jr_aload rfl rfl ?_
  refine jr_cv0 (mc' := 0) (ms' := 0) rfl jm_MD_isGood_n jm_MD_isGood_f rfl rfl rfl rfl rfl rfl rfl (Nat.zero_le _) (Nat.zero_le _) ?_
  show jx_W (jm_MD_isGood, _, _, _, _, _, _) _ 0 0 0 [some _] [] _
  refine jr_aload rfl rfl ?_
  refine jr_getI rfl rfl ?_
  refine jr_if_ne rfl (fun _ => ?_) (fun z => absurd z e3)
  refine jr_ic rfl ?_
  refine jr_zret rfl rfl rfl (Nat.zero_le _) (Nat.zero_le _) ?_
  refine jr_if_eq rfl (fun _ => ?_) (fun z => absurd (by decide) z)
  refine jr_aload rfl rfl ?_
  refine jr_ic rfl ?_
  refine jr_ic rfl ?_
  refine jr_cv2 (mc' := 0) (ms' := 0) rfl jm_MD_numeral_n jm_MD_numeral_f rfl rfl rfl rfl rfl rfl rfl (Nat.zero_le _) (Nat.zero_le _) ?_
  refine eM_num_b (lo := 1) (hi := 99) e3 ?_
  refine jr_ist3 rfl rfl ?_
  refine jr_aload rfl rfl ?_
  refine jr_getR rfl rfl rfl rfl (Or.inl rfl) ?_
  refine jr_aload rfl rfl ?_
  refine jr_getI rfl rfl ?_
  refine jr_iload rfl rfl ?_
  refine jr_iload rfl rfl ?_
  refine jr_imul rfl ?_
  refine jr_iload rfl rfl ?_
  refine jr_iadd rfl ?_
  rw [show nI (jT_v B sz (jT_p B sz t)) * nI 1 + nI 0 = nI ((jT_v B sz (jT_p B sz t)) * 1 + 0) from jn_add (jn_mul rfl rfl) rfl]
  refine jr_iast (len := 2) rfl rfl b3 (by omega) ?_
  refine jr_aload rfl rfl ?_
  refine jr_getR rfl rfl rfl rfl (Or.inl rfl) ?_
  refine jr_aload rfl rfl ?_
  refine jr_getI rfl rfl ?_
  refine jr_iload rfl rfl ?_
  refine jr_iast (len := 2) rfl rfl b3 (by omega) ?_
  refine jr_vret rfl rfl (Nat.zero_le _) (Nat.zero_le _) ?_
  exact k _ (jMF_I (a := 79) (w := 1) (jMF_I (a := 78) (w := 1) (jMF_ft (jMF_G (jMF_G (jMF_I (a := 85) (w := 1) (F) (by decide) (by decide) (by omega) (by omega)) g1) g2) g3) (by decide) (by decide) (by omega) (by omega)) (by decide) (by decide) (by omega) (by omega)) g3.2.2.2.1 g3.2.2.2.2

set_option maxHeartbeats 800000 in
set_option maxRecDepth 100000 in
theorem eM_sun_b5 {d : Nat} {h : jx_H} {Q : Option jx_V → jx_H → Prop} {h0 : jx_H} {B : Nat → Int32} {sz β t : Nat} {V : Nat → Nat → Nat} {W : Nat → Nat → List Nat} {D : Nat → Int32} (x : jML h B sz β t V W D) (F : jMF β h0 h) (hβ : β < 2) (k0 : jT_K B sz t = 2) (r0 : jT_v B sz (jT_p B sz t) ≤ 186) (k1 : jT_K B sz (t + 1) = 119) (k2 : jT_K B sz (t + 2) = 2) (r2 : jT_v B sz (jT_p B sz (t + 2)) ≤ 99) (k3 : ¬ jT_K B sz (t + 3) = 116) (k : ∀ h', jMF β h0 h' → jh_I h' 11 0 4 = jX_kd (jT_K B sz (t + 3)) → jPl h' (jT_p B sz (t + 3)) → Q none h')  : jx_Ev jm_MD_readSun (d + 8) 0 0 false 1 [jv_r 11 0] h Q := by
  show jx_W (jm_MD_readSun, d + 8, 0, 0, false, 1, _) Q 0 0 0 [some (jv_r 11 0), none, none, none] [] _
  obtain ⟨⟨t0, m0, f0, b0, -, -, -, -⟩, -, -⟩ := id x
  refine jr_aload rfl rfl ?_
  refine jr_getR rfl rfl rfl rfl (Or.inl rfl) ?_
  refine jr_aload rfl rfl ?_
  refine jr_getI rfl rfl ?_
  refine jr_ic rfl ?_
  refine jr_zast (len := 2) rfl rfl b0 (by omega) ?_
  refine jr_aload rfl rfl ?_
  refine jr_ic rfl ?_
  refine jr_ic rfl ?_
  refine jr_cv2 (mc' := 0) (ms' := 0) rfl jm_MD_numeral_n jm_MD_numeral_f rfl rfl rfl rfl rfl rfl rfl (Nat.zero_le _) (Nat.zero_le _) ?_
  refine eM_num_y (B := B) (sz := sz) (lo := 0) (hi := 186) (t := t) t0 m0 f0 (by omega) (by omega) k0 (Nat.zero_le _) r0 (fun h1 g1 m1 => ?_)
  have t1 := jX_t_MG g1 t0
  have f1 : jh_I h1 11 0 4 = 0 := (g1.2.2.2 4 (by decide)).trans f0
  have b1 : jh_I h1 11 0 44 = nI β := (g1.2.2.2 44 (by decide)).trans b0
  refine jr_ist1 rfl rfl ?_
  refine jr_aload rfl rfl ?_
  refine jr_lc rfl ?_
  refine jr_ic rfl ?_
  refine jr_ic rfl ?_
  refine jr_cv3 (mc' := 0) (ms' := 0) rfl jm_MD_after_n jm_MD_after_f rfl rfl rfl rfl rfl rfl rfl (Nat.zero_le _) (Nat.zero_le _) ?_
  show jx_W (jm_MD_after, _, _, _, _, _, _) _ 0 0 0 [some _, some _, none, some _, some _] [] _
  refine jr_aload rfl rfl ?_
  refine jr_aload rfl rfl ?_
  refine jr_lload rfl rfl ?_
  refine jr_cv1 (mc' := 0) (ms' := 0) rfl jm_MD_isWord_n jm_MD_isWord_f rfl rfl rfl rfl rfl rfl rfl (Nat.zero_le _) (Nat.zero_le _) ?_
  refine eM_isWord (B := B) (sz := sz) (t := t + 1) m1 (i := 19) (by decide) jT_W19 ?_
  refine jr_cv1 (mc' := 0) (ms' := 0) rfl jm_MD_must_n jm_MD_must_f rfl rfl rfl rfl rfl rfl rfl (Nat.zero_le _) (Nat.zero_le _) ?_
  refine eM_must_y (B := B) (sz := sz) (t := t + 1) t1 m1 f1 (by rw [if_pos k1]; decide) (fun h2 g2 m2 => ?_)
  have t2 := jX_t_MG g2 t1
  have f2 : jh_I h2 11 0 4 = 0 := (g2.2.2.2 4 (by decide)).trans f1
  have b2 : jh_I h2 11 0 44 = nI β := (g2.2.2.2 44 (by decide)).trans b1
  refine jr_aload rfl rfl ?_
  refine jr_iload rfl rfl ?_
  refine jr_iload rfl rfl ?_
  refine jr_cv2 (mc' := 0) (ms' := 0) rfl jm_MD_numeral_n jm_MD_numeral_f rfl rfl rfl rfl rfl rfl rfl (Nat.zero_le _) (Nat.zero_le _) ?_
  refine eM_num_y (B := B) (sz := sz) (lo := 0) (hi := 99) (t := t + 2) t2 m2 f2 (by omega) (by omega) k2 (Nat.zero_le _) r2 (fun h3 g3 m3 => ?_)
  have t3 := jX_t_MG g3 t2
  have f3 : jh_I h3 11 0 4 = 0 := (g3.2.2.2 4 (by decide)).trans f2
  have b3 : jh_I h3 11 0 44 = nI β := (g3.2.2.2 44 (by decide)).trans b2
  refine jr_iret rfl rfl (Nat.zero_le _) (Nat.zero_le _) ?_
  refine jr_ist2 rfl rfl ?_
  refine jr_aload rfl rfl ?_
  refine jr_aload rfl rfl ?_
  refine jr_lc rfl ?_
  refine jr_cv1 (mc' := 0) (ms' := 0) rfl jm_MD_isWord_n jm_MD_isWord_f rfl rfl rfl rfl rfl rfl rfl (Nat.zero_le _) (Nat.zero_le _) ?_
  refine eM_isWord (B := B) (sz := sz) (t := t + 3) m3 (i := 16) (by decide) jT_W16 ?_
  refine jr_cv1 (mc' := 0) (ms' := 0) rfl jm_MD_must_n jm_MD_must_f rfl rfl rfl rfl rfl rfl rfl (Nat.zero_le _) (Nat.zero_le _) ?_
  refine eM_must_n (B := B) (sz := sz) (t := t + 3) t3 m3 f3 (if_neg k3) (fun h4 g4 => ?_)
  have e4 : ¬ jh_I h4 11 0 4 = 0 := by rw [g4.2.2.2.1]; exact jX_kd_n _
  have m4 := jT_mc_ft g4 m3
  have b4 : jh_I h4 11 0 44 = nI β := (g4.2.2.1 44 (by decide) (by decide)).trans b3
  refine jr_aload rfl rfl ?_
  refine jr_cv0 (mc' := 0) (ms' := 0) rfl jm_MD_isGood_n jm_MD_isGood_f rfl rfl rfl rfl rfl rfl rfl (Nat.zero_le _) (Nat.zero_le _) ?_
  show jx_W (jm_MD_isGood, _, _, _, _, _, _) _ 0 0 0 [some _] [] _
  refine jr_aload rfl rfl ?_
  refine jr_getI rfl rfl ?_
  refine jr_if_ne rfl (fun _ => ?_) (fun z => absurd z e4)
  refine jr_ic rfl ?_
  refine jr_zret rfl rfl rfl (Nat.zero_le _) (Nat.zero_le _) ?_
  refine jr_if_eq rfl (fun _ => ?_) (fun z => absurd (by decide) z)
  refine jr_aload rfl rfl ?_
  refine jr_ic rfl ?_
  refine jr_ic rfl ?_
  refine jr_cv2 (mc' := 0) (ms' := 0) rfl jm_MD_numeral_n jm_MD_numeral_f rfl rfl rfl rfl rfl rfl rfl (Nat.zero_le _) (Nat.zero_le _) ?_
  refine eM_num_b (lo := 1) (hi := 99) e4 ?_
  refine jr_ist3 rfl rfl ?_
  refine jr_aload rfl rfl ?_
  refine jr_getR rfl rfl rfl rfl (Or.inl rfl) ?_
  refine jr_aload rfl rfl ?_
  refine jr_getI rfl rfl ?_
  refine jr_iload rfl rfl ?_
  refine jr_iload rfl rfl ?_
  refine jr_imul rfl ?_
  refine jr_iload rfl rfl ?_
  refine jr_iadd rfl ?_
  rw [show nI (jT_v B sz (jT_p B sz t)) * nI 1 + nI (jT_v B sz (jT_p B sz (t + 2))) = nI ((jT_v B sz (jT_p B sz t)) * 1 + (jT_v B sz (jT_p B sz (t + 2)))) from jn_add (jn_mul rfl rfl) rfl]
  refine jr_iast (len := 2) rfl rfl b4 (by omega) ?_
  refine jr_aload rfl rfl ?_
  refine jr_getR rfl rfl rfl rfl (Or.inl rfl) ?_
  refine jr_aload rfl rfl ?_
  refine jr_getI rfl rfl ?_
  refine jr_iload rfl rfl ?_
  refine jr_iast (len := 2) rfl rfl b4 (by omega) ?_
  refine jr_vret rfl rfl (Nat.zero_le _) (Nat.zero_le _) ?_
  exact k _ (jMF_I (a := 79) (w := 1) (jMF_I (a := 78) (w := 1) (jMF_ft (jMF_G (jMF_G (jMF_G (jMF_I (a := 85) (w := 1) (F) (by decide) (by decide) (by omega) (by omega)) g1) g2) g3) g4) (by decide) (by decide) (by omega) (by omega)) (by decide) (by decide) (by omega) (by omega)) g4.2.2.2.1 g4.2.2.2.2

set_option maxHeartbeats 800000 in
set_option maxRecDepth 100000 in
theorem eM_sun_b6 {d : Nat} {h : jx_H} {Q : Option jx_V → jx_H → Prop} {h0 : jx_H} {B : Nat → Int32} {sz β t : Nat} {V : Nat → Nat → Nat} {W : Nat → Nat → List Nat} {D : Nat → Int32} (x : jML h B sz β t V W D) (F : jMF β h0 h) (hβ : β < 2) (k0 : jT_K B sz t = 2) (r0 : jT_v B sz (jT_p B sz t) ≤ 186) (k1 : jT_K B sz (t + 1) = 119) (k2 : jT_K B sz (t + 2) = 2) (r2 : jT_v B sz (jT_p B sz (t + 2)) ≤ 99) (k3 : jT_K B sz (t + 3) = 116) (k4 : ¬ jT_K B sz (t + 4) = 2) (k : ∀ h', jMF β h0 h' → jh_I h' 11 0 4 = jX_kd (jT_K B sz (t + 4)) → jPl h' (jT_p B sz (t + 4)) → Q none h')  : jx_Ev jm_MD_readSun (d + 8) 0 0 false 1 [jv_r 11 0] h Q := by
  show jx_W (jm_MD_readSun, d + 8, 0, 0, false, 1, _) Q 0 0 0 [some (jv_r 11 0), none, none, none] [] _
  obtain ⟨⟨t0, m0, f0, b0, -, -, -, -⟩, -, -⟩ := id x
  refine jr_aload rfl rfl ?_
  refine jr_getR rfl rfl rfl rfl (Or.inl rfl) ?_
  refine jr_aload rfl rfl ?_
  refine jr_getI rfl rfl ?_
  refine jr_ic rfl ?_
  refine jr_zast (len := 2) rfl rfl b0 (by omega) ?_
  refine jr_aload rfl rfl ?_
  refine jr_ic rfl ?_
  refine jr_ic rfl ?_
  refine jr_cv2 (mc' := 0) (ms' := 0) rfl jm_MD_numeral_n jm_MD_numeral_f rfl rfl rfl rfl rfl rfl rfl (Nat.zero_le _) (Nat.zero_le _) ?_
  refine eM_num_y (B := B) (sz := sz) (lo := 0) (hi := 186) (t := t) t0 m0 f0 (by omega) (by omega) k0 (Nat.zero_le _) r0 (fun h1 g1 m1 => ?_)
  have t1 := jX_t_MG g1 t0
  have f1 : jh_I h1 11 0 4 = 0 := (g1.2.2.2 4 (by decide)).trans f0
  have b1 : jh_I h1 11 0 44 = nI β := (g1.2.2.2 44 (by decide)).trans b0
  refine jr_ist1 rfl rfl ?_
  refine jr_aload rfl rfl ?_
  refine jr_lc rfl ?_
  refine jr_ic rfl ?_
  refine jr_ic rfl ?_
  refine jr_cv3 (mc' := 0) (ms' := 0) rfl jm_MD_after_n jm_MD_after_f rfl rfl rfl rfl rfl rfl rfl (Nat.zero_le _) (Nat.zero_le _) ?_
  show jx_W (jm_MD_after, _, _, _, _, _, _) _ 0 0 0 [some _, some _, none, some _, some _] [] _
  refine jr_aload rfl rfl ?_
  refine jr_aload rfl rfl ?_
  refine jr_lload rfl rfl ?_
  refine jr_cv1 (mc' := 0) (ms' := 0) rfl jm_MD_isWord_n jm_MD_isWord_f rfl rfl rfl rfl rfl rfl rfl (Nat.zero_le _) (Nat.zero_le _) ?_
  refine eM_isWord (B := B) (sz := sz) (t := t + 1) m1 (i := 19) (by decide) jT_W19 ?_
  refine jr_cv1 (mc' := 0) (ms' := 0) rfl jm_MD_must_n jm_MD_must_f rfl rfl rfl rfl rfl rfl rfl (Nat.zero_le _) (Nat.zero_le _) ?_
  refine eM_must_y (B := B) (sz := sz) (t := t + 1) t1 m1 f1 (by rw [if_pos k1]; decide) (fun h2 g2 m2 => ?_)
  have t2 := jX_t_MG g2 t1
  have f2 : jh_I h2 11 0 4 = 0 := (g2.2.2.2 4 (by decide)).trans f1
  have b2 : jh_I h2 11 0 44 = nI β := (g2.2.2.2 44 (by decide)).trans b1
  refine jr_aload rfl rfl ?_
  refine jr_iload rfl rfl ?_
  refine jr_iload rfl rfl ?_
  refine jr_cv2 (mc' := 0) (ms' := 0) rfl jm_MD_numeral_n jm_MD_numeral_f rfl rfl rfl rfl rfl rfl rfl (Nat.zero_le _) (Nat.zero_le _) ?_
  refine eM_num_y (B := B) (sz := sz) (lo := 0) (hi := 99) (t := t + 2) t2 m2 f2 (by omega) (by omega) k2 (Nat.zero_le _) r2 (fun h3 g3 m3 => ?_)
  have t3 := jX_t_MG g3 t2
  have f3 : jh_I h3 11 0 4 = 0 := (g3.2.2.2 4 (by decide)).trans f2
  have b3 : jh_I h3 11 0 44 = nI β := (g3.2.2.2 44 (by decide)).trans b2
  refine jr_iret rfl rfl (Nat.zero_le _) (Nat.zero_le _) ?_
  refine jr_ist2 rfl rfl ?_
  refine jr_aload rfl rfl ?_
  refine jr_aload rfl rfl ?_
  refine jr_lc rfl ?_
  refine jr_cv1 (mc' := 0) (ms' := 0) rfl jm_MD_isWord_n jm_MD_isWord_f rfl rfl rfl rfl rfl rfl rfl (Nat.zero_le _) (Nat.zero_le _) ?_
  refine eM_isWord (B := B) (sz := sz) (t := t + 3) m3 (i := 16) (by decide) jT_W16 ?_
  refine jr_cv1 (mc' := 0) (ms' := 0) rfl jm_MD_must_n jm_MD_must_f rfl rfl rfl rfl rfl rfl rfl (Nat.zero_le _) (Nat.zero_le _) ?_
  refine eM_must_y (B := B) (sz := sz) (t := t + 3) t3 m3 f3 (by rw [if_pos k3]; decide) (fun h4 g4 m4 => ?_)
  have t4 := jX_t_MG g4 t3
  have f4 : jh_I h4 11 0 4 = 0 := (g4.2.2.2 4 (by decide)).trans f3
  have b4 : jh_I h4 11 0 44 = nI β := (g4.2.2.2 44 (by decide)).trans b3
  refine jr_aload rfl rfl ?_
  refine jr_cv0 (mc' := 0) (ms' := 0) rfl jm_MD_isGood_n jm_MD_isGood_f rfl rfl rfl rfl rfl rfl rfl (Nat.zero_le _) (Nat.zero_le _) ?_
  show jx_W (jm_MD_isGood, _, _, _, _, _, _) _ 0 0 0 [some _] [] _
  refine jr_aload rfl rfl ?_
  refine jr_getI rfl rfl ?_
  refine jr_if_ne rfl (fun z => absurd f4 z) (fun _ => ?_)
  refine jr_ic rfl ?_
  refine jr_goto rfl ?_
  refine jr_zret rfl rfl rfl (Nat.zero_le _) (Nat.zero_le _) ?_
  refine jr_if_eq rfl (fun z => absurd z (by decide)) (fun _ => ?_)
  refine jr_aload rfl rfl ?_
  refine jr_getI rfl rfl ?_
  refine jr_ic rfl ?_
  rw [show jh_I h4 11 0 8 = nI (jT_mt (jT_K B sz (t + 4))) from m4.2.2.1]
  refine jr_icmp_ne rfl (fun _ => ?_) (fun z => absurd z (fun y => k4 (jT_mt4.mp y)))
  refine jr_aload rfl rfl ?_
  refine jr_ic rfl ?_
  refine jr_ic rfl ?_
  refine jr_cv2 (mc' := 0) (ms' := 0) rfl jm_MD_numeral_n jm_MD_numeral_f rfl rfl rfl rfl rfl rfl rfl (Nat.zero_le _) (Nat.zero_le _) ?_
  refine eM_num_n (B := B) (sz := sz) (lo := 1) (hi := 99) (t := t + 4) t4 m4 f4 k4 (fun h5 g5 => ?_)
  have e5 : ¬ jh_I h5 11 0 4 = 0 := by rw [g5.2.2.2.1]; exact jX_kd_n _
  have m5 := jT_mc_ft g5 m4
  have b5 : jh_I h5 11 0 44 = nI β := (g5.2.2.1 44 (by decide) (by decide)).trans b4
  refine jr_ist3 rfl rfl ?_
  refine jr_aload rfl rfl ?_
  refine jr_getR rfl rfl rfl rfl (Or.inl rfl) ?_
  refine jr_aload rfl rfl ?_
  refine jr_getI rfl rfl ?_
  refine jr_iload rfl rfl ?_
  refine jr_iload rfl rfl ?_
  refine jr_imul rfl ?_
  refine jr_iload rfl rfl ?_
  refine jr_iadd rfl ?_
  rw [show nI (jT_v B sz (jT_p B sz t)) * nI 1 + nI (jT_v B sz (jT_p B sz (t + 2))) = nI ((jT_v B sz (jT_p B sz t)) * 1 + (jT_v B sz (jT_p B sz (t + 2)))) from jn_add (jn_mul rfl rfl) rfl]
  refine jr_iast (len := 2) rfl rfl b5 (by omega) ?_
  refine jr_aload rfl rfl ?_
  refine jr_getR rfl rfl rfl rfl (Or.inl rfl) ?_
  refine jr_aload rfl rfl ?_
  refine jr_getI rfl rfl ?_
  refine jr_iload rfl rfl ?_
  refine jr_iast (len := 2) rfl rfl b5 (by omega) ?_
  refine jr_vret rfl rfl (Nat.zero_le _) (Nat.zero_le _) ?_
  exact k _ (jMF_I (a := 79) (w := 1) (jMF_I (a := 78) (w := 1) (jMF_ft (jMF_G (jMF_G (jMF_G (jMF_G (jMF_I (a := 85) (w := 1) (F) (by decide) (by decide) (by omega) (by omega)) g1) g2) g3) g4) g5) (by decide) (by decide) (by omega) (by omega)) (by decide) (by decide) (by omega) (by omega)) g5.2.2.2.1 g5.2.2.2.2

set_option maxHeartbeats 800000 in
set_option maxRecDepth 100000 in
theorem eM_sun_b7 {d : Nat} {h : jx_H} {Q : Option jx_V → jx_H → Prop} {h0 : jx_H} {B : Nat → Int32} {sz β t : Nat} {V : Nat → Nat → Nat} {W : Nat → Nat → List Nat} {D : Nat → Int32} (x : jML h B sz β t V W D) (F : jMF β h0 h) (hβ : β < 2) (k0 : jT_K B sz t = 2) (r0 : jT_v B sz (jT_p B sz t) ≤ 186) (k1 : jT_K B sz (t + 1) = 119) (k2 : jT_K B sz (t + 2) = 2) (r2 : jT_v B sz (jT_p B sz (t + 2)) ≤ 99) (k3 : jT_K B sz (t + 3) = 116) (k4 : jT_K B sz (t + 4) = 2) (r4 : 0 < jT_v B sz (jT_p B sz (t + 4)) ∧ jT_v B sz (jT_p B sz (t + 4)) ≤ jT_v B sz (jT_p B sz (t + 2))) (k : ∀ h', jMF β h0 h' → jh_I h' 11 0 4 = 4 → jPl h' (jT_p B sz (t + 4)) → Q none h')  : jx_Ev jm_MD_readSun (d + 8) 0 0 false 1 [jv_r 11 0] h Q := by
  show jx_W (jm_MD_readSun, d + 8, 0, 0, false, 1, _) Q 0 0 0 [some (jv_r 11 0), none, none, none] [] _
  obtain ⟨⟨t0, m0, f0, b0, -, -, -, -⟩, -, -⟩ := id x
  refine jr_aload rfl rfl ?_
  refine jr_getR rfl rfl rfl rfl (Or.inl rfl) ?_
  refine jr_aload rfl rfl ?_
  refine jr_getI rfl rfl ?_
  refine jr_ic rfl ?_
  refine jr_zast (len := 2) rfl rfl b0 (by omega) ?_
  refine jr_aload rfl rfl ?_
  refine jr_ic rfl ?_
  refine jr_ic rfl ?_
  refine jr_cv2 (mc' := 0) (ms' := 0) rfl jm_MD_numeral_n jm_MD_numeral_f rfl rfl rfl rfl rfl rfl rfl (Nat.zero_le _) (Nat.zero_le _) ?_
  refine eM_num_y (B := B) (sz := sz) (lo := 0) (hi := 186) (t := t) t0 m0 f0 (by omega) (by omega) k0 (Nat.zero_le _) r0 (fun h1 g1 m1 => ?_)
  have t1 := jX_t_MG g1 t0
  have f1 : jh_I h1 11 0 4 = 0 := (g1.2.2.2 4 (by decide)).trans f0
  have b1 : jh_I h1 11 0 44 = nI β := (g1.2.2.2 44 (by decide)).trans b0
  refine jr_ist1 rfl rfl ?_
  refine jr_aload rfl rfl ?_
  refine jr_lc rfl ?_
  refine jr_ic rfl ?_
  refine jr_ic rfl ?_
  refine jr_cv3 (mc' := 0) (ms' := 0) rfl jm_MD_after_n jm_MD_after_f rfl rfl rfl rfl rfl rfl rfl (Nat.zero_le _) (Nat.zero_le _) ?_
  show jx_W (jm_MD_after, _, _, _, _, _, _) _ 0 0 0 [some _, some _, none, some _, some _] [] _
  refine jr_aload rfl rfl ?_
  refine jr_aload rfl rfl ?_
  refine jr_lload rfl rfl ?_
  refine jr_cv1 (mc' := 0) (ms' := 0) rfl jm_MD_isWord_n jm_MD_isWord_f rfl rfl rfl rfl rfl rfl rfl (Nat.zero_le _) (Nat.zero_le _) ?_
  refine eM_isWord (B := B) (sz := sz) (t := t + 1) m1 (i := 19) (by decide) jT_W19 ?_
  refine jr_cv1 (mc' := 0) (ms' := 0) rfl jm_MD_must_n jm_MD_must_f rfl rfl rfl rfl rfl rfl rfl (Nat.zero_le _) (Nat.zero_le _) ?_
  refine eM_must_y (B := B) (sz := sz) (t := t + 1) t1 m1 f1 (by rw [if_pos k1]; decide) (fun h2 g2 m2 => ?_)
  have t2 := jX_t_MG g2 t1
  have f2 : jh_I h2 11 0 4 = 0 := (g2.2.2.2 4 (by decide)).trans f1
  have b2 : jh_I h2 11 0 44 = nI β := (g2.2.2.2 44 (by decide)).trans b1
  refine jr_aload rfl rfl ?_
  refine jr_iload rfl rfl ?_
  refine jr_iload rfl rfl ?_
  refine jr_cv2 (mc' := 0) (ms' := 0) rfl jm_MD_numeral_n jm_MD_numeral_f rfl rfl rfl rfl rfl rfl rfl (Nat.zero_le _) (Nat.zero_le _) ?_
  refine eM_num_y (B := B) (sz := sz) (lo := 0) (hi := 99) (t := t + 2) t2 m2 f2 (by omega) (by omega) k2 (Nat.zero_le _) r2 (fun h3 g3 m3 => ?_)
  have t3 := jX_t_MG g3 t2
  have f3 : jh_I h3 11 0 4 = 0 := (g3.2.2.2 4 (by decide)).trans f2
  have b3 : jh_I h3 11 0 44 = nI β := (g3.2.2.2 44 (by decide)).trans b2
  refine jr_iret rfl rfl (Nat.zero_le _) (Nat.zero_le _) ?_
  refine jr_ist2 rfl rfl ?_
  refine jr_aload rfl rfl ?_
  refine jr_aload rfl rfl ?_
  refine jr_lc rfl ?_
  refine jr_cv1 (mc' := 0) (ms' := 0) rfl jm_MD_isWord_n jm_MD_isWord_f rfl rfl rfl rfl rfl rfl rfl (Nat.zero_le _) (Nat.zero_le _) ?_
  refine eM_isWord (B := B) (sz := sz) (t := t + 3) m3 (i := 16) (by decide) jT_W16 ?_
  refine jr_cv1 (mc' := 0) (ms' := 0) rfl jm_MD_must_n jm_MD_must_f rfl rfl rfl rfl rfl rfl rfl (Nat.zero_le _) (Nat.zero_le _) ?_
  refine eM_must_y (B := B) (sz := sz) (t := t + 3) t3 m3 f3 (by rw [if_pos k3]; decide) (fun h4 g4 m4 => ?_)
  have t4 := jX_t_MG g4 t3
  have f4 : jh_I h4 11 0 4 = 0 := (g4.2.2.2 4 (by decide)).trans f3
  have b4 : jh_I h4 11 0 44 = nI β := (g4.2.2.2 44 (by decide)).trans b3
  refine jr_aload rfl rfl ?_
  refine jr_cv0 (mc' := 0) (ms' := 0) rfl jm_MD_isGood_n jm_MD_isGood_f rfl rfl rfl rfl rfl rfl rfl (Nat.zero_le _) (Nat.zero_le _) ?_
  show jx_W (jm_MD_isGood, _, _, _, _, _, _) _ 0 0 0 [some _] [] _
  refine jr_aload rfl rfl ?_
  refine jr_getI rfl rfl ?_
  refine jr_if_ne rfl (fun z => absurd f4 z) (fun _ => ?_)
  refine jr_ic rfl ?_
  refine jr_goto rfl ?_
  refine jr_zret rfl rfl rfl (Nat.zero_le _) (Nat.zero_le _) ?_
  refine jr_if_eq rfl (fun z => absurd z (by decide)) (fun _ => ?_)
  refine jr_aload rfl rfl ?_
  refine jr_getI rfl rfl ?_
  refine jr_ic rfl ?_
  rw [show jh_I h4 11 0 8 = nI (jT_mt (jT_K B sz (t + 4))) from m4.2.2.1]
  refine jr_icmp_ne rfl (fun z => absurd (jT_mt4.mpr k4) z) (fun _ => ?_)
  refine jr_aload rfl rfl ?_
  refine jr_getI rfl rfl ?_
  rw [show jh_I h4 11 0 9 = nI (jT_v B sz (jT_p B sz (t + 4))) from m4.2.2.2.1 k4]
  refine jr_if_le rfl (fun z => absurd z (by have := jT_v_lt (B := B) (sz := sz) (t := t + 4) k4; exact nI_nle0 r4.1 (by omega))) (fun _ => ?_)
  refine jr_aload rfl rfl ?_
  refine jr_getI rfl rfl ?_
  refine jr_iload rfl rfl ?_
  rw [show jh_I h4 11 0 9 = nI (jT_v B sz (jT_p B sz (t + 4))) from m4.2.2.2.1 k4]
  refine jr_icmp_gt rfl (fun z => absurd z (by have := jT_v_lt (B := B) (sz := sz) (t := t + 4) k4; exact nI_ngt r4.2 (by omega))) (fun _ => ?_)
  refine jr_aload rfl rfl ?_
  refine jr_ic rfl ?_
  refine jr_aload rfl rfl ?_
  refine jr_getI rfl rfl ?_
  refine jr_cv2 (mc' := 0) (ms' := 0) rfl jm_MD_fails_n jm_MD_fails_f rfl rfl rfl rfl rfl rfl rfl (Nat.zero_le _) (Nat.zero_le _) ?_
  show jx_W (jm_MD_fails, _, _, _, _, _, _) _ 0 0 0 [some _, some _, some _] [] _
  refine jr_aload rfl rfl ?_
  refine jr_getI rfl rfl ?_
  refine jr_if_le rfl (fun _ => ?_) (fun z => absurd (by rw [f4]; decide) z)
  refine jr_aload rfl rfl ?_
  refine jr_iload rfl rfl ?_
  refine jr_putI rfl rfl ?_
  refine jr_aload rfl rfl ?_
  refine jr_iload rfl rfl ?_
  refine jr_putI rfl rfl ?_
  refine jr_vret rfl rfl (Nat.zero_le _) (Nat.zero_le _) ?_
  have g6 : jX_ft h4 (ju_I (ju_I h4 11 0 (upd (jh_I h4 11 0) 4 4)) 11 0 (upd (upd (jh_I h4 11 0) 4 4) 5 (jh_I h4 11 0 6))) 4 (jT_p B sz (t + 4)) := by
    refine ⟨fun a b z => (if_neg (fun y => z y.1)).trans (if_neg (fun y => z y.1)), rfl, fun f z1 z2 => (jg_un z2).trans (jg_un z1), (jg_un (by decide) : upd (upd (jh_I h4 11 0) 4 4) 5 (jh_I h4 11 0 6) 4 = _).trans (jg_us _ _ _), ⟨(jg_us (upd (jh_I h4 11 0) 4 4) 5 (jh_I h4 11 0 6)).trans m4.1, (jg_un (by decide) : upd (upd (jh_I h4 11 0) 4 4) 5 (jh_I h4 11 0 6) 6 = _).trans ((jg_un (by decide)).trans m4.1)⟩⟩
  have F6 := jMF_ft (jMF_G (jMF_G (jMF_G (jMF_G (jMF_I (a := 85) (w := 1) (F) (by decide) (by decide) (by omega) (by omega)) g1) g2) g3) g4) g6
  refine jr_aload rfl rfl ?_
  refine jr_ic rfl ?_
  refine jr_ic rfl ?_
  refine jr_cv2 (mc' := 0) (ms' := 0) rfl jm_MD_numeral_n jm_MD_numeral_f rfl rfl rfl rfl rfl rfl rfl (Nat.zero_le _) (Nat.zero_le _) ?_
  refine eM_num_b (lo := 1) (hi := 99) (show ¬ (4 : Int32) = 0 by decide) ?_
  refine jr_ist3 rfl rfl ?_
  refine jr_aload rfl rfl ?_
  refine jr_getR rfl rfl rfl rfl (Or.inl rfl) ?_
  refine jr_aload rfl rfl ?_
  refine jr_getI rfl rfl ?_
  refine jr_iload rfl rfl ?_
  refine jr_iload rfl rfl ?_
  refine jr_imul rfl ?_
  refine jr_iload rfl rfl ?_
  refine jr_iadd rfl ?_
  refine jr_iast (len := 2) rfl rfl b4 (by omega) ?_
  refine jr_aload rfl rfl ?_
  refine jr_getR rfl rfl rfl rfl (Or.inl rfl) ?_
  refine jr_aload rfl rfl ?_
  refine jr_getI rfl rfl ?_
  refine jr_iload rfl rfl ?_
  refine jr_iast (len := 2) rfl rfl b4 (by omega) ?_
  refine jr_vret rfl rfl (Nat.zero_le _) (Nat.zero_le _) ?_
  exact k _ (jMF_I (a := 79) (w := 1) (jMF_I (a := 78) (w := 1) F6 (by decide) (by decide) (by omega) (by omega)) (by decide) (by decide) (by omega) (by omega)) g6.2.2.2.1 g6.2.2.2.2

set_option maxHeartbeats 800000 in
set_option maxRecDepth 100000 in
theorem eM_sun_b8 {d : Nat} {h : jx_H} {Q : Option jx_V → jx_H → Prop} {h0 : jx_H} {B : Nat → Int32} {sz β t : Nat} {V : Nat → Nat → Nat} {W : Nat → Nat → List Nat} {D : Nat → Int32} (x : jML h B sz β t V W D) (F : jMF β h0 h) (hβ : β < 2) (k0 : jT_K B sz t = 2) (r0 : jT_v B sz (jT_p B sz t) ≤ 186) (k1 : jT_K B sz (t + 1) = 119) (k2 : jT_K B sz (t + 2) = 2) (r2 : jT_v B sz (jT_p B sz (t + 2)) ≤ 99) (k3 : jT_K B sz (t + 3) = 116) (k4 : jT_K B sz (t + 4) = 2) (r4 : jT_v B sz (jT_p B sz (t + 2)) < jT_v B sz (jT_p B sz (t + 4)) ∨ jT_v B sz (jT_p B sz (t + 4)) = 0) (r5 : jT_v B sz (jT_p B sz (t + 4)) < 1 ∨ 99 < jT_v B sz (jT_p B sz (t + 4))) (k : ∀ h', jMF β h0 h' → jh_I h' 11 0 4 = 4 → jPl h' (jT_p B sz (t + 4)) → Q none h')  : jx_Ev jm_MD_readSun (d + 8) 0 0 false 1 [jv_r 11 0] h Q := by
  show jx_W (jm_MD_readSun, d + 8, 0, 0, false, 1, _) Q 0 0 0 [some (jv_r 11 0), none, none, none] [] _
  obtain ⟨⟨t0, m0, f0, b0, -, -, -, -⟩, -, -⟩ := id x
  refine jr_aload rfl rfl ?_
  refine jr_getR rfl rfl rfl rfl (Or.inl rfl) ?_
  refine jr_aload rfl rfl ?_
  refine jr_getI rfl rfl ?_
  refine jr_ic rfl ?_
  refine jr_zast (len := 2) rfl rfl b0 (by omega) ?_
  refine jr_aload rfl rfl ?_
  refine jr_ic rfl ?_
  refine jr_ic rfl ?_
  refine jr_cv2 (mc' := 0) (ms' := 0) rfl jm_MD_numeral_n jm_MD_numeral_f rfl rfl rfl rfl rfl rfl rfl (Nat.zero_le _) (Nat.zero_le _) ?_
  refine eM_num_y (B := B) (sz := sz) (lo := 0) (hi := 186) (t := t) t0 m0 f0 (by omega) (by omega) k0 (Nat.zero_le _) r0 (fun h1 g1 m1 => ?_)
  have t1 := jX_t_MG g1 t0
  have f1 : jh_I h1 11 0 4 = 0 := (g1.2.2.2 4 (by decide)).trans f0
  have b1 : jh_I h1 11 0 44 = nI β := (g1.2.2.2 44 (by decide)).trans b0
  refine jr_ist1 rfl rfl ?_
  refine jr_aload rfl rfl ?_
  refine jr_lc rfl ?_
  refine jr_ic rfl ?_
  refine jr_ic rfl ?_
  refine jr_cv3 (mc' := 0) (ms' := 0) rfl jm_MD_after_n jm_MD_after_f rfl rfl rfl rfl rfl rfl rfl (Nat.zero_le _) (Nat.zero_le _) ?_
  show jx_W (jm_MD_after, _, _, _, _, _, _) _ 0 0 0 [some _, some _, none, some _, some _] [] _
  refine jr_aload rfl rfl ?_
  refine jr_aload rfl rfl ?_
  refine jr_lload rfl rfl ?_
  refine jr_cv1 (mc' := 0) (ms' := 0) rfl jm_MD_isWord_n jm_MD_isWord_f rfl rfl rfl rfl rfl rfl rfl (Nat.zero_le _) (Nat.zero_le _) ?_
  refine eM_isWord (B := B) (sz := sz) (t := t + 1) m1 (i := 19) (by decide) jT_W19 ?_
  refine jr_cv1 (mc' := 0) (ms' := 0) rfl jm_MD_must_n jm_MD_must_f rfl rfl rfl rfl rfl rfl rfl (Nat.zero_le _) (Nat.zero_le _) ?_
  refine eM_must_y (B := B) (sz := sz) (t := t + 1) t1 m1 f1 (by rw [if_pos k1]; decide) (fun h2 g2 m2 => ?_)
  have t2 := jX_t_MG g2 t1
  have f2 : jh_I h2 11 0 4 = 0 := (g2.2.2.2 4 (by decide)).trans f1
  have b2 : jh_I h2 11 0 44 = nI β := (g2.2.2.2 44 (by decide)).trans b1
  refine jr_aload rfl rfl ?_
  refine jr_iload rfl rfl ?_
  refine jr_iload rfl rfl ?_
  refine jr_cv2 (mc' := 0) (ms' := 0) rfl jm_MD_numeral_n jm_MD_numeral_f rfl rfl rfl rfl rfl rfl rfl (Nat.zero_le _) (Nat.zero_le _) ?_
  refine eM_num_y (B := B) (sz := sz) (lo := 0) (hi := 99) (t := t + 2) t2 m2 f2 (by omega) (by omega) k2 (Nat.zero_le _) r2 (fun h3 g3 m3 => ?_)
  have t3 := jX_t_MG g3 t2
  have f3 : jh_I h3 11 0 4 = 0 := (g3.2.2.2 4 (by decide)).trans f2
  have b3 : jh_I h3 11 0 44 = nI β := (g3.2.2.2 44 (by decide)).trans b2
  refine jr_iret rfl rfl (Nat.zero_le _) (Nat.zero_le _) ?_
  refine jr_ist2 rfl rfl ?_
  refine jr_aload rfl rfl ?_
  refine jr_aload rfl rfl ?_
  refine jr_lc rfl ?_
  refine jr_cv1 (mc' := 0) (ms' := 0) rfl jm_MD_isWord_n jm_MD_isWord_f rfl rfl rfl rfl rfl rfl rfl (Nat.zero_le _) (Nat.zero_le _) ?_
  refine eM_isWord (B := B) (sz := sz) (t := t + 3) m3 (i := 16) (by decide) jT_W16 ?_
  refine jr_cv1 (mc' := 0) (ms' := 0) rfl jm_MD_must_n jm_MD_must_f rfl rfl rfl rfl rfl rfl rfl (Nat.zero_le _) (Nat.zero_le _) ?_
  refine eM_must_y (B := B) (sz := sz) (t := t + 3) t3 m3 f3 (by rw [if_pos k3]; decide) (fun h4 g4 m4 => ?_)
  have t4 := jX_t_MG g4 t3
  have f4 : jh_I h4 11 0 4 = 0 := (g4.2.2.2 4 (by decide)).trans f3
  have b4 : jh_I h4 11 0 44 = nI β := (g4.2.2.2 44 (by decide)).trans b3
  refine jr_aload rfl rfl ?_
  refine jr_cv0 (mc' := 0) (ms' := 0) rfl jm_MD_isGood_n jm_MD_isGood_f rfl rfl rfl rfl rfl rfl rfl (Nat.zero_le _) (Nat.zero_le _) ?_
  show jx_W (jm_MD_isGood, _, _, _, _, _, _) _ 0 0 0 [some _] [] _
  refine jr_aload rfl rfl ?_
  refine jr_getI rfl rfl ?_
  refine jr_if_ne rfl (fun z => absurd f4 z) (fun _ => ?_)
  refine jr_ic rfl ?_
  refine jr_goto rfl ?_
  refine jr_zret rfl rfl rfl (Nat.zero_le _) (Nat.zero_le _) ?_
  refine jr_if_eq rfl (fun z => absurd z (by decide)) (fun _ => ?_)
  refine jr_aload rfl rfl ?_
  refine jr_getI rfl rfl ?_
  refine jr_ic rfl ?_
  rw [show jh_I h4 11 0 8 = nI (jT_mt (jT_K B sz (t + 4))) from m4.2.2.1]
  refine jr_icmp_ne rfl (fun z => absurd (jT_mt4.mpr k4) z) (fun _ => ?_)
  refine jr_aload rfl rfl ?_
  refine jr_getI rfl rfl ?_
  rw [show jh_I h4 11 0 9 = nI (jT_v B sz (jT_p B sz (t + 4))) from m4.2.2.2.1 k4]
  refine jr_if_le rfl (fun c31 => ?_) (fun c31 => ?_)
  · refine jr_aload rfl rfl ?_
    refine jr_ic rfl ?_
    refine jr_ic rfl ?_
    refine jr_cv2 (mc' := 0) (ms' := 0) rfl jm_MD_numeral_n jm_MD_numeral_f rfl rfl rfl rfl rfl rfl rfl (Nat.zero_le _) (Nat.zero_le _) ?_
    refine eM_num_r (B := B) (sz := sz) (lo := 1) (hi := 99) (t := t + 4) t4 m4 f4 (by omega) (by omega) k4 r5 (fun h5 g5 => ?_)
    have e5 : ¬ jh_I h5 11 0 4 = 0 := by rw [g5.2.2.2.1]; exact (by decide)
    have m5 := jT_mc_ft g5 m4
    have b5 : jh_I h5 11 0 44 = nI β := (g5.2.2.1 44 (by decide) (by decide)).trans b4
    refine jr_ist3 rfl rfl ?_
    refine jr_aload rfl rfl ?_
    refine jr_getR rfl rfl rfl rfl (Or.inl rfl) ?_
    refine jr_aload rfl rfl ?_
    refine jr_getI rfl rfl ?_
    refine jr_iload rfl rfl ?_
    refine jr_iload rfl rfl ?_
    refine jr_imul rfl ?_
    refine jr_iload rfl rfl ?_
    refine jr_iadd rfl ?_
    rw [show nI (jT_v B sz (jT_p B sz t)) * nI 1 + nI (jT_v B sz (jT_p B sz (t + 2))) = nI ((jT_v B sz (jT_p B sz t)) * 1 + (jT_v B sz (jT_p B sz (t + 2)))) from jn_add (jn_mul rfl rfl) rfl]
    refine jr_iast (len := 2) rfl rfl b5 (by omega) ?_
    refine jr_aload rfl rfl ?_
    refine jr_getR rfl rfl rfl rfl (Or.inl rfl) ?_
    refine jr_aload rfl rfl ?_
    refine jr_getI rfl rfl ?_
    refine jr_iload rfl rfl ?_
    refine jr_iast (len := 2) rfl rfl b5 (by omega) ?_
    refine jr_vret rfl rfl (Nat.zero_le _) (Nat.zero_le _) ?_
    exact k _ (jMF_I (a := 79) (w := 1) (jMF_I (a := 78) (w := 1) (jMF_ft (jMF_G (jMF_G (jMF_G (jMF_G (jMF_I (a := 85) (w := 1) (F) (by decide) (by decide) (by omega) (by omega)) g1) g2) g3) g4) g5) (by decide) (by decide) (by omega) (by omega)) (by decide) (by decide) (by omega) (by omega)) g5.2.2.2.1 g5.2.2.2.2
  · refine jr_aload rfl rfl ?_
    refine jr_getI rfl rfl ?_
    refine jr_iload rfl rfl ?_
    rw [show jh_I h4 11 0 9 = nI (jT_v B sz (jT_p B sz (t + 4))) from m4.2.2.2.1 k4]
    refine jr_icmp_gt rfl (fun c35 => ?_) (fun c35 => ?_)
    · refine jr_aload rfl rfl ?_
      refine jr_ic rfl ?_
      refine jr_ic rfl ?_
      refine jr_cv2 (mc' := 0) (ms' := 0) rfl jm_MD_numeral_n jm_MD_numeral_f rfl rfl rfl rfl rfl rfl rfl (Nat.zero_le _) (Nat.zero_le _) ?_
      refine eM_num_r (B := B) (sz := sz) (lo := 1) (hi := 99) (t := t + 4) t4 m4 f4 (by omega) (by omega) k4 r5 (fun h5 g5 => ?_)
      have e5 : ¬ jh_I h5 11 0 4 = 0 := by rw [g5.2.2.2.1]; exact (by decide)
      have m5 := jT_mc_ft g5 m4
      have b5 : jh_I h5 11 0 44 = nI β := (g5.2.2.1 44 (by decide) (by decide)).trans b4
      refine jr_ist3 rfl rfl ?_
      refine jr_aload rfl rfl ?_
      refine jr_getR rfl rfl rfl rfl (Or.inl rfl) ?_
      refine jr_aload rfl rfl ?_
      refine jr_getI rfl rfl ?_
      refine jr_iload rfl rfl ?_
      refine jr_iload rfl rfl ?_
      refine jr_imul rfl ?_
      refine jr_iload rfl rfl ?_
      refine jr_iadd rfl ?_
      rw [show nI (jT_v B sz (jT_p B sz t)) * nI 1 + nI (jT_v B sz (jT_p B sz (t + 2))) = nI ((jT_v B sz (jT_p B sz t)) * 1 + (jT_v B sz (jT_p B sz (t + 2)))) from jn_add (jn_mul rfl rfl) rfl]
      refine jr_iast (len := 2) rfl rfl b5 (by omega) ?_
      refine jr_aload rfl rfl ?_
      refine jr_getR rfl rfl rfl rfl (Or.inl rfl) ?_
      refine jr_aload rfl rfl ?_
      refine jr_getI rfl rfl ?_
      refine jr_iload rfl rfl ?_
      refine jr_iast (len := 2) rfl rfl b5 (by omega) ?_
      refine jr_vret rfl rfl (Nat.zero_le _) (Nat.zero_le _) ?_
      exact k _ (jMF_I (a := 79) (w := 1) (jMF_I (a := 78) (w := 1) (jMF_ft (jMF_G (jMF_G (jMF_G (jMF_G (jMF_I (a := 85) (w := 1) (F) (by decide) (by decide) (by omega) (by omega)) g1) g2) g3) g4) g5) (by decide) (by decide) (by omega) (by omega)) (by decide) (by decide) (by omega) (by omega)) g5.2.2.2.1 g5.2.2.2.2
    · exfalso
      have := jT_v_lt (B := B) (sz := sz) (t := t + 4) k4
      have q1 : 0 < jT_v B sz (jT_p B sz (t + 4)) := jn_nle (show ¬ nI (jT_v B sz (jT_p B sz (t + 4))) ≤ nI 0 from c31) (by omega) (by decide)
      have q2 := jn_nlt (show ¬ nI (jT_v B sz (jT_p B sz (t + 2))) < nI (jT_v B sz (jT_p B sz (t + 4))) from c35) (by omega) (by omega)
      omega

