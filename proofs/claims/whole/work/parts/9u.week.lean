def jq_RL (d n0 : Nat) (Qm : Option jx_V → jx_H → Prop) (what : Int64) (pc : Nat) (h : jx_H) : Prop := jx_W (jm_MD_readLine, d + 20, 0, 0, false, 1, n0) Qm 0 0 pc [some (jv_r 11 0), some (jv_l what), none] [] h
theorem jML_week {h h' : jx_H} {B : Nat → Int32} {sz β t t' y b : Nat} {V : Nat → Nat → Nat} {W : Nat → Nat → List Nat} {D : Nat → Int32} (x : jML h B sz β t V W D) (xt : jX_t h' B sz) (xm : jT_mc h' B sz t') (xg : jh_I h' 11 0 4 = 0) (xb : jh_I h' 11 0 44 = nI β) (xc : jh_I h' 11 0 45 = jh_I h 11 0 45) (e87 : jh_I h' 87 0 = upd (jh_I h 87 0) β 1)
    (e81 : jh_I h' 81 0 = upd (jh_I h 81 0) β (nI y)) (e88 : jh_I h' 88 0 = upd (jh_I h 88 0) β (nI b)) (eI : ∀ a b, a ≠ 11 → a ≠ 81 → a ≠ 87 → a ≠ 88 → jh_I h' a b = jh_I h a b) (eL : ∀ a b, a ≠ 11 → jh_L h' a b = jh_L h a b) :
    jML h' B sz β t' (jv2 (jv2 (jv2 V 0 7 1) 0 11 y) 0 12 b) W D := by
  obtain ⟨⟨-, -, -, -, y69, y45, -, -⟩, ⟨⟨a1, a2⟩, ⟨b1, b2⟩, ⟨c1, c2⟩, r, ⟨s1, s2⟩, s3, s4, s5, s6, s7⟩, d⟩ := x
  have f : ∀ a, a ≠ 11 → a ≠ 81 → a ≠ 87 → a ≠ 88 → jh_I h' a 0 = jh_I h a 0 := fun a => eI a 0
  have g := fun a (z : a ≠ 11) => eL a 0 z
  refine ⟨⟨xt, xm, xg, xb, by rw [f 69 (by decide) (by decide) (by decide) (by decide)]; exact y69, xc.trans y45, rfl, rfl⟩, ⟨⟨by rw [f 66 (by decide) (by decide) (by decide) (by decide)]; exact a1, fun j hj => by rw [f 70 (by decide) (by decide) (by decide) (by decide), f 71 (by decide) (by decide) (by decide) (by decide), g 90 (by decide)]; exact a2 j hj⟩, ⟨by rw [f 67 (by decide) (by decide) (by decide) (by decide)]; exact b1, fun p hp => by rw [f 72 (by decide) (by decide) (by decide) (by decide), g 91 (by decide)]; exact b2 p hp⟩,
    ⟨by rw [f 68 (by decide) (by decide) (by decide) (by decide)]; exact c1, fun p hp => ⟨?_, by rw [g 92 (by decide)]; exact (c2 p hp).2⟩⟩, fun w hw => jMr_s (r w hw) (f 82 (by decide) (by decide) (by decide) (by decide)) (f 83 (by decide) (by decide) (by decide) (by decide)) (f 89 (by decide) (by decide) (by decide) (by decide)) (f 93 (by decide) (by decide) (by decide) (by decide)),
    ⟨by rw [f 85 (by decide) (by decide) (by decide) (by decide)]; exact s1, fun q => by rw [f 78 (by decide) (by decide) (by decide) (by decide), f 79 (by decide) (by decide) (by decide) (by decide)]; exact s2 q⟩, by rw [f 86 (by decide) (by decide) (by decide) (by decide)]; exact s3, by rw [f 80 (by decide) (by decide) (by decide) (by decide)]; exact s4, by rw [e87, jg_us]; rfl, by rw [e81, jg_us]; rfl, by rw [e88, jg_us]; rfl⟩, by rw [f 93 (by decide) (by decide) (by decide) (by decide), f 94 (by decide) (by decide) (by decide) (by decide)]; exact d⟩
  unfold jMd
  rw [f 73 (by decide) (by decide) (by decide) (by decide), f 74 (by decide) (by decide) (by decide) (by decide), f 75 (by decide) (by decide) (by decide) (by decide), f 76 (by decide) (by decide) (by decide) (by decide), f 77 (by decide) (by decide) (by decide) (by decide), f 84 (by decide) (by decide) (by decide) (by decide)]
  exact (c2 p hp).1
set_option maxHeartbeats 800000 in
set_option maxRecDepth 100000 in
theorem eM_week_b0 {d n0 : Nat} {Q : Option jx_V → jx_H → Prop} {h0 h : jx_H} {B : Nat → Int32} {sz β t : Nat} {what : Int64} {V : Nat → Nat → Nat} {W : Nat → Nat → List Nat} {D : Nat → Int32} (x : jML h B sz β t V W D) (F : jMF β h0 h) (hβ : β < 2) (k0 : ¬ jT_K B sz t = 2) (k : ∀ h', jMF β h0 h' → jh_I h' 11 0 4 = jX_kd (jT_K B sz t) → jPl h' (jT_p B sz t) → jq_RL d n0 Q what 82 h')  : jx_W (jm_MD_readLine, d + 20, 0, 0, false, 1, n0) Q 0 0 59 [some (jv_r 11 0), some (jv_l what), none] [] h := by
  obtain ⟨⟨t0, m0, f0, b0, -, -, -, -⟩, -, -⟩ := id x
  refine jr_aload rfl rfl ?_
  refine jr_getR rfl rfl rfl rfl (Or.inl rfl) ?_
  refine jr_aload rfl rfl ?_
  refine jr_getI rfl rfl ?_
  refine jr_ic rfl ?_
  refine jr_zast (len := 2) rfl rfl b0 (by omega) ?_
  refine jr_aload rfl rfl ?_
  refine jr_getR rfl rfl rfl rfl (Or.inl rfl) ?_
  refine jr_aload rfl rfl ?_
  refine jr_getI rfl rfl ?_
  refine jr_aload rfl rfl ?_
  refine jr_ic rfl ?_
  refine jr_ic rfl ?_
  refine jr_cv2 (mc' := 0) (ms' := 0) rfl jm_MD_numeral_n jm_MD_numeral_f rfl rfl rfl rfl rfl rfl rfl (Nat.zero_le _) (Nat.zero_le _) ?_
  refine eM_num_n (B := B) (sz := sz) (lo := 1) (hi := 9) (t := t) t0 m0 f0 k0 (fun h1 g1 => ?_)
  have e1 : ¬ jh_I h1 11 0 4 = 0 := by rw [g1.2.2.2.1]; exact jX_kd_n _
  have m1 := jT_mc_ft g1 m0
  have b1 : jh_I h1 11 0 44 = nI β := (g1.2.2.1 44 (by decide) (by decide)).trans b0
  refine jr_iast (len := 2) rfl rfl b0 (by omega) ?_
  refine jr_aload rfl rfl ?_
  refine jr_getR rfl rfl rfl rfl (Or.inl rfl) ?_
  refine jr_aload rfl rfl ?_
  refine jr_getI rfl rfl ?_
  refine jr_aload rfl rfl ?_
  refine jr_lc rfl ?_
  refine jr_cv1 (mc' := 0) (ms' := 0) rfl jm_MD_has_n jm_MD_has_f rfl rfl rfl rfl rfl rfl rfl (Nat.zero_le _) (Nat.zero_le _) ?_
  refine eM_has_b e1 ?_
  refine jr_zast (len := 2) rfl rfl b1 (by omega) ?_
  exact k _ (jMF_I (a := 88) (w := 1) (jMF_I (a := 81) (w := 1) (jMF_ft (jMF_I (a := 87) (w := 1) (F) (by decide) (by decide) (by omega) (by omega)) g1) (by decide) (by decide) (by omega) (by omega)) (by decide) (by decide) (by omega) (by omega)) g1.2.2.2.1 g1.2.2.2.2

set_option maxHeartbeats 800000 in
set_option maxRecDepth 100000 in
theorem eM_week_b1 {d n0 : Nat} {Q : Option jx_V → jx_H → Prop} {h0 h : jx_H} {B : Nat → Int32} {sz β t : Nat} {what : Int64} {V : Nat → Nat → Nat} {W : Nat → Nat → List Nat} {D : Nat → Int32} (x : jML h B sz β t V W D) (F : jMF β h0 h) (hβ : β < 2) (k0 : jT_K B sz t = 2) (r0 : jT_v B sz (jT_p B sz t) < 1 ∨ 9 < jT_v B sz (jT_p B sz t)) (k : ∀ h', jMF β h0 h' → jh_I h' 11 0 4 = 4 → jPl h' (jT_p B sz t) → jq_RL d n0 Q what 82 h')  : jx_W (jm_MD_readLine, d + 20, 0, 0, false, 1, n0) Q 0 0 59 [some (jv_r 11 0), some (jv_l what), none] [] h := by
  obtain ⟨⟨t0, m0, f0, b0, -, -, -, -⟩, -, -⟩ := id x
  refine jr_aload rfl rfl ?_
  refine jr_getR rfl rfl rfl rfl (Or.inl rfl) ?_
  refine jr_aload rfl rfl ?_
  refine jr_getI rfl rfl ?_
  refine jr_ic rfl ?_
  refine jr_zast (len := 2) rfl rfl b0 (by omega) ?_
  refine jr_aload rfl rfl ?_
  refine jr_getR rfl rfl rfl rfl (Or.inl rfl) ?_
  refine jr_aload rfl rfl ?_
  refine jr_getI rfl rfl ?_
  refine jr_aload rfl rfl ?_
  refine jr_ic rfl ?_
  refine jr_ic rfl ?_
  refine jr_cv2 (mc' := 0) (ms' := 0) rfl jm_MD_numeral_n jm_MD_numeral_f rfl rfl rfl rfl rfl rfl rfl (Nat.zero_le _) (Nat.zero_le _) ?_
  refine eM_num_r (B := B) (sz := sz) (lo := 1) (hi := 9) (t := t) t0 m0 f0 (by omega) (by omega) k0 r0 (fun h1 g1 => ?_)
  have e1 : ¬ jh_I h1 11 0 4 = 0 := by rw [g1.2.2.2.1]; exact (by decide)
  have m1 := jT_mc_ft g1 m0
  have b1 : jh_I h1 11 0 44 = nI β := (g1.2.2.1 44 (by decide) (by decide)).trans b0
  refine jr_iast (len := 2) rfl rfl b0 (by omega) ?_
  refine jr_aload rfl rfl ?_
  refine jr_getR rfl rfl rfl rfl (Or.inl rfl) ?_
  refine jr_aload rfl rfl ?_
  refine jr_getI rfl rfl ?_
  refine jr_aload rfl rfl ?_
  refine jr_lc rfl ?_
  refine jr_cv1 (mc' := 0) (ms' := 0) rfl jm_MD_has_n jm_MD_has_f rfl rfl rfl rfl rfl rfl rfl (Nat.zero_le _) (Nat.zero_le _) ?_
  refine eM_has_b e1 ?_
  refine jr_zast (len := 2) rfl rfl b1 (by omega) ?_
  exact k _ (jMF_I (a := 88) (w := 1) (jMF_I (a := 81) (w := 1) (jMF_ft (jMF_I (a := 87) (w := 1) (F) (by decide) (by decide) (by omega) (by omega)) g1) (by decide) (by decide) (by omega) (by omega)) (by decide) (by decide) (by omega) (by omega)) g1.2.2.2.1 g1.2.2.2.2

set_option maxHeartbeats 800000 in
set_option maxRecDepth 100000 in
theorem eM_week_g0 {d n0 : Nat} {Q : Option jx_V → jx_H → Prop} {h0 h : jx_H} {B : Nat → Int32} {sz β t : Nat} {what : Int64} {V : Nat → Nat → Nat} {W : Nat → Nat → List Nat} {D : Nat → Int32} (x : jML h B sz β t V W D) (F : jMF β h0 h) (hβ : β < 2) (k0 : jT_K B sz t = 2) (r0 : 1 ≤ jT_v B sz (jT_p B sz t) ∧ jT_v B sz (jT_p B sz t) ≤ 9) (k1 : ¬ jT_K B sz (t + 1) = 126) (k : ∀ h', jMF β h0 h' → jML h' B sz β (t + 1) (jv2 (jv2 (jv2 V 0 7 1) 0 11 (jT_v B sz (jT_p B sz t))) 0 12 0) W D → jq_RL d n0 Q what 82 h')  : jx_W (jm_MD_readLine, d + 20, 0, 0, false, 1, n0) Q 0 0 59 [some (jv_r 11 0), some (jv_l what), none] [] h := by
  obtain ⟨⟨t0, m0, f0, b0, -, -, -, -⟩, -, -⟩ := id x
  refine jr_aload rfl rfl ?_
  refine jr_getR rfl rfl rfl rfl (Or.inl rfl) ?_
  refine jr_aload rfl rfl ?_
  refine jr_getI rfl rfl ?_
  refine jr_ic rfl ?_
  refine jr_zast (len := 2) rfl rfl b0 (by omega) ?_
  refine jr_aload rfl rfl ?_
  refine jr_getR rfl rfl rfl rfl (Or.inl rfl) ?_
  refine jr_aload rfl rfl ?_
  refine jr_getI rfl rfl ?_
  refine jr_aload rfl rfl ?_
  refine jr_ic rfl ?_
  refine jr_ic rfl ?_
  refine jr_cv2 (mc' := 0) (ms' := 0) rfl jm_MD_numeral_n jm_MD_numeral_f rfl rfl rfl rfl rfl rfl rfl (Nat.zero_le _) (Nat.zero_le _) ?_
  refine eM_num_y (B := B) (sz := sz) (lo := 1) (hi := 9) (t := t) t0 m0 f0 (by omega) (by omega) k0 r0.1 r0.2 (fun h1 g1 m1 => ?_)
  have t1 := jX_t_MG g1 t0
  have f1 : jh_I h1 11 0 4 = 0 := (g1.2.2.2 4 (by decide)).trans f0
  have b1 : jh_I h1 11 0 44 = nI β := (g1.2.2.2 44 (by decide)).trans b0
  refine jr_iast (len := 2) rfl rfl b0 (by omega) ?_
  refine jr_aload rfl rfl ?_
  refine jr_getR rfl rfl rfl rfl (Or.inl rfl) ?_
  refine jr_aload rfl rfl ?_
  refine jr_getI rfl rfl ?_
  refine jr_aload rfl rfl ?_
  refine jr_lc rfl ?_
  refine jr_cv1 (mc' := 0) (ms' := 0) rfl jm_MD_has_n jm_MD_has_f rfl rfl rfl rfl rfl rfl rfl (Nat.zero_le _) (Nat.zero_le _) ?_
  refine eM_has_n (B := B) (sz := sz) (i := 26) (t := t + 1) t1 m1 f1 (by decide) jT_W26 k1 ?_
  refine jr_zast (len := 2) rfl rfl b1 (by omega) ?_
  refine k _ (jMF_I (a := 88) (w := 1) (jMF_I (a := 81) (w := 1) (jMF_G (jMF_I (a := 87) (w := 1) (F) (by decide) (by decide) (by omega) (by omega)) g1) (by decide) (by decide) (by omega) (by omega)) (by decide) (by decide) (by omega) (by omega)) (jML_week x t1 m1 f1 b1 ?_ ?_ ?_ ?_ ?_ ?_)
  · exact g1.2.2.2 45 (by decide)
  · exact g1.1 87 0 (by decide)
  · exact congrArg (fun F => upd F (β) (nI (jT_v B sz (jT_p B sz t)))) (g1.1 81 0 (by decide))
  · exact congrArg (fun F => upd F (β) (0)) (g1.1 88 0 (by decide))
  · exact fun a b z11 z81 z87 z88 => (if_neg (fun y => z88 y.1)).trans ((if_neg (fun y => z81 y.1)).trans ((g1.1 a b z11).trans (if_neg (fun y => z87 y.1))))
  · exact fun a b z11 => g1.2.1 a b z11

set_option maxHeartbeats 800000 in
set_option maxRecDepth 100000 in
theorem eM_week_g1 {d n0 : Nat} {Q : Option jx_V → jx_H → Prop} {h0 h : jx_H} {B : Nat → Int32} {sz β t : Nat} {what : Int64} {V : Nat → Nat → Nat} {W : Nat → Nat → List Nat} {D : Nat → Int32} (x : jML h B sz β t V W D) (F : jMF β h0 h) (hβ : β < 2) (k0 : jT_K B sz t = 2) (r0 : 1 ≤ jT_v B sz (jT_p B sz t) ∧ jT_v B sz (jT_p B sz t) ≤ 9) (k1 : jT_K B sz (t + 1) = 126) (k : ∀ h', jMF β h0 h' → jML h' B sz β (t + 2) (jv2 (jv2 (jv2 V 0 7 1) 0 11 (jT_v B sz (jT_p B sz t))) 0 12 1) W D → jq_RL d n0 Q what 82 h')  : jx_W (jm_MD_readLine, d + 20, 0, 0, false, 1, n0) Q 0 0 59 [some (jv_r 11 0), some (jv_l what), none] [] h := by
  obtain ⟨⟨t0, m0, f0, b0, -, -, -, -⟩, -, -⟩ := id x
  refine jr_aload rfl rfl ?_
  refine jr_getR rfl rfl rfl rfl (Or.inl rfl) ?_
  refine jr_aload rfl rfl ?_
  refine jr_getI rfl rfl ?_
  refine jr_ic rfl ?_
  refine jr_zast (len := 2) rfl rfl b0 (by omega) ?_
  refine jr_aload rfl rfl ?_
  refine jr_getR rfl rfl rfl rfl (Or.inl rfl) ?_
  refine jr_aload rfl rfl ?_
  refine jr_getI rfl rfl ?_
  refine jr_aload rfl rfl ?_
  refine jr_ic rfl ?_
  refine jr_ic rfl ?_
  refine jr_cv2 (mc' := 0) (ms' := 0) rfl jm_MD_numeral_n jm_MD_numeral_f rfl rfl rfl rfl rfl rfl rfl (Nat.zero_le _) (Nat.zero_le _) ?_
  refine eM_num_y (B := B) (sz := sz) (lo := 1) (hi := 9) (t := t) t0 m0 f0 (by omega) (by omega) k0 r0.1 r0.2 (fun h1 g1 m1 => ?_)
  have t1 := jX_t_MG g1 t0
  have f1 : jh_I h1 11 0 4 = 0 := (g1.2.2.2 4 (by decide)).trans f0
  have b1 : jh_I h1 11 0 44 = nI β := (g1.2.2.2 44 (by decide)).trans b0
  refine jr_iast (len := 2) rfl rfl b0 (by omega) ?_
  refine jr_aload rfl rfl ?_
  refine jr_getR rfl rfl rfl rfl (Or.inl rfl) ?_
  refine jr_aload rfl rfl ?_
  refine jr_getI rfl rfl ?_
  refine jr_aload rfl rfl ?_
  refine jr_lc rfl ?_
  refine jr_cv1 (mc' := 0) (ms' := 0) rfl jm_MD_has_n jm_MD_has_f rfl rfl rfl rfl rfl rfl rfl (Nat.zero_le _) (Nat.zero_le _) ?_
  refine eM_has_y (B := B) (sz := sz) (i := 26) (t := t + 1) t1 m1 f1 (by decide) jT_W26 k1 (fun h2 g2 m2 => ?_)
  have t2 := jX_t_MG g2 t1
  have f2 : jh_I h2 11 0 4 = 0 := (g2.2.2.2 4 (by decide)).trans f1
  have b2 : jh_I h2 11 0 44 = nI β := (g2.2.2.2 44 (by decide)).trans b1
  refine jr_zast (len := 2) rfl rfl b1 (by omega) ?_
  refine k _ (jMF_I (a := 88) (w := 1) (jMF_G (jMF_I (a := 81) (w := 1) (jMF_G (jMF_I (a := 87) (w := 1) (F) (by decide) (by decide) (by omega) (by omega)) g1) (by decide) (by decide) (by omega) (by omega)) g2) (by decide) (by decide) (by omega) (by omega)) (jML_week x t2 m2 f2 b2 ?_ ?_ ?_ ?_ ?_ ?_)
  · exact (g2.2.2.2 45 (by decide)).trans (g1.2.2.2 45 (by decide))
  · exact (g2.1 87 0 (by decide)).trans (g1.1 87 0 (by decide))
  · exact (g2.1 81 0 (by decide)).trans (congrArg (fun F => upd F (β) (nI (jT_v B sz (jT_p B sz t)))) (g1.1 81 0 (by decide)))
  · exact congrArg (fun F => upd F (β) (1)) ((g2.1 88 0 (by decide)).trans (g1.1 88 0 (by decide)))
  · exact fun a b z11 z81 z87 z88 => (if_neg (fun y => z88 y.1)).trans ((g2.1 a b z11).trans ((if_neg (fun y => z81 y.1)).trans ((g1.1 a b z11).trans (if_neg (fun y => z87 y.1)))))
  · exact fun a b z11 => (g2.2.1 a b z11).trans (g1.2.1 a b z11)

theorem jLS_week {h0 h h5 : jx_H} {B : Nat → Int32} {sz T ρ t t' y b : Nat} {V : Nat → Nat → Nat} {W : Nat → Nat → List Nat} {D : Nat → Int32} (x : jLS h0 (jgh h V) B sz T ρ t V W D) (xb : jh_I h 6 0 5 = nI (jbt V + 8)) (hs : V 0 7 = 0) (h7 : jh_I h5 7 ρ = upd (upd (jh_I h 7 ρ) 10 (nI y)) 11 (nI b)) (fa : ∀ a b, a ≠ 9 → a ≠ 6 → a ≠ 7 → jh_I h5 a b = jh_I h a b) (gL : ∀ a b, a ≠ 9 → jh_L h5 a b = jh_L h a b) (gM : h5.2.2 = h.2.2) (g6 : ∀ f, f < 7 → jh_I h5 6 0 f = jh_I h 6 0 f) (gc : jCF ρ h0 h5) (z : jTS h5 B sz T (t + t')) (h1 : 1 ≤ y ∧ y ≤ 9) (h2 : b ≤ 1) :
    jLS h0 h5 B sz T ρ (t + t') (jv2 (jv2 (jv2 V 0 7 1) 0 11 y) 0 12 b) W D := by
  obtain ⟨x1, ⟨⟨a1, a2⟩, ⟨b1, b2⟩, ⟨c1, c2⟩, e, f1, f2, f3, f4, f5, f6, f7, i1, i2, i3, i4⟩, x3, ⟨v1, v2, v3, v4, v5, v6, v7, v8, v9, v10, v11, v12, v13, v14, v15, v16, v17, v18, v19, v20, v21⟩, x5, x6⟩ := x
  have f7' : ∀ q, q ≠ 10 → q ≠ 11 → jh_I h5 7 ρ q = jh_I h 7 ρ q := fun q hq hq2 => by
    rw [h7, jg_un hq2, jg_un hq]
  have eL : ∀ a, a ≠ 9 → jh_L h5 a 0 = jh_L h a 0 := fun a z1 => gL a 0 z1
  refine ⟨z, ⟨⟨(f7' 0 (by decide) (by decide)).trans a1, fun j hj => ?_⟩, ⟨(f7' 3 (by decide) (by decide)).trans b1, fun p hp => ?_⟩, ⟨(f7' 5 (by decide) (by decide)).trans c1, fun p hp => ?_⟩, fun w hw => ?_, (f7' 7 (by decide) (by decide)).trans f1, (f7' 8 (by decide) (by decide)).trans f2, (f7' 9 (by decide) (by decide)).trans f3, ?_, ?_, (f7' 12 (by decide) (by decide)).trans f6, (f7' 15 (by decide) (by decide)).trans f7, ?_, ?_, fun q hq => ?_, ?_⟩,
    gc, ⟨v1, v2, v3, v4, v5, v6, v7, v8, v9, v10, v11, Nat.le_refl _, v13, h1.1, h1.2, h2, v17, v18, v19, v20, v21⟩, ?_, x6⟩
  · rw [fa 21 ρ (by decide) (by decide) (by decide), fa 22 ρ (by decide) (by decide) (by decide), eL 28 (by decide)]
    exact a2 j hj
  · rw [fa 23 ρ (by decide) (by decide) (by decide), eL 29 (by decide)]
    exact b2 p hp
  · unfold jCd
    rw [fa 2 _ (by decide) (by decide) (by decide), eL 30 (by decide)]
    exact c2 p hp
  · rw [fa 26 ρ (by decide) (by decide) (by decide), fa 27 ρ (by decide) (by decide) (by decide)]
    exact e w hw
  · rw [h7, jg_un (by decide), jg_us]
    rfl
  · rw [h7, jg_us]
    rfl
  · refine (g6 5 (by decide)).trans (xb.trans ?_)
    show nI (V 0 5 + 2 * V 12 5 + 4 * V 0 6 + 8 * V 0 7 + 8) = nI (V 0 5 + 2 * V 12 5 + 4 * V 0 6 + 8 * 1)
    exact congrArg nI (by omega)
  · rw [f7' 13 (by decide) (by decide)]
    exact i2
  · rw [fa 25 ρ (by decide) (by decide) (by decide)]
    exact i3 q hq
  · rw [show jh_M h5 6 0 = jh_M h 6 0 from congrFun (congrFun (congrArg (·.1) gM) 6) 0]
    exact i4
  · show 4 * V 0 4 ≤ 8 * V 0 3 + jT_p B sz (t + t')
    have := jT_p_mn (B := B) (sz := sz) (t := t) t'
    omega
