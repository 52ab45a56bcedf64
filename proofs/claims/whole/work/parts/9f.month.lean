theorem jg_Iuu (H : jx_H) (k i j : Nat) (F : Nat → Int32) (x : Int32) : jh_I (ju_I H k i (upd F j x)) k i j = x := by rw [jg_II, jg_us]
theorem jT_mc_ft {h h' : jx_H} {B : Nat → Int32} {sz t pl : Nat} {kd : Int32} (g : jX_ft h h' kd pl) (m : jT_mc h B sz t) : jT_mc h' B sz t := ⟨(g.2.2.1 6 (by decide) (by decide)).trans m.1, (g.2.2.1 7 (by decide) (by decide)).trans m.2.1, (g.2.2.1 8 (by decide) (by decide)).trans m.2.2.1, fun q => (g.2.2.1 9 (by decide) (by decide)).trans (m.2.2.2.1 q), fun q => (congrFun (congrFun (congrFun (congrArg (·.1) g.2.1) 11) 0) 10).trans (m.2.2.2.2 q)⟩
theorem jMr_s {h h' : jx_H} {β w s e v : Nat} (x : jMr h β w s e v) (e1 : jh_I h' 82 0 = jh_I h 82 0) (e2 : jh_I h' 83 0 = jh_I h 83 0) (e3 : jh_I h' 89 0 = jh_I h 89 0) (e4 : jh_I h' 93 0 = jh_I h 93 0) : jMr h' β w s e v := by
  unfold jMr
  rw [e1, e2, e3, e4]
  exact x
theorem jML_month {h h' : jx_H} {B : Nat → Int32} {sz β t t' lo hi : Nat} {w : List Nat} {V : Nat → Nat → Nat} {W : Nat → Nat → List Nat} {D : Nat → Int32} (x : jML h B sz β t V W D) (xt : jX_t h' B sz) (xm : jT_mc h' B sz t') (xg : jh_I h' 11 0 4 = 0) (xb : jh_I h' 11 0 44 = nI β) (xc : jh_I h' 11 0 45 = jh_I h 11 0 45) (e66 : jh_I h' 66 0 = upd (jh_I h 66 0) β (nI (V 0 0 + 1)))
    (e70 : jh_I h' 70 0 = upd (jh_I h 70 0) (6 * β + V 0 0) (nI lo)) (e71 : jh_I h' 71 0 = upd (jh_I h 71 0) (6 * β + V 0 0) (nI hi)) (e90 : jh_L h' 90 0 = vp_updL (jh_L h 90 0) (6 * β + V 0 0) (jT_key w)) (eI : ∀ a b, a ≠ 11 → a ≠ 66 → a ≠ 70 → a ≠ 71 → jh_I h' a b = jh_I h a b) (eL : ∀ a b, a ≠ 11 → a ≠ 90 → jh_L h' a b = jh_L h a b) :
    jML h' B sz β t' (jv2 (jv2 (jv2 V 0 0 (V 0 0 + 1)) 1 (V 0 0) lo) 2 (V 0 0) hi) (jw2 W 0 (V 0 0) w) D := by
  obtain ⟨⟨-, -, -, -, y69, y45, -, -⟩, ⟨⟨a1, a2⟩, ⟨b1, b2⟩, ⟨c1, c2⟩, r, ⟨s1, s2⟩, s3, s4, s5, s6, s7⟩, d⟩ := x
  have f : ∀ a, a ≠ 11 → a ≠ 66 → a ≠ 70 → a ≠ 71 → jh_I h' a 0 = jh_I h a 0 := fun a => eI a 0
  refine ⟨⟨xt, xm, xg, xb, by rw [f 69 (by decide) (by decide) (by decide) (by decide)]; exact y69, xc.trans y45, rfl, rfl⟩, ⟨⟨by rw [e66, jg_us]; rfl, fun j hj => ?_⟩, ⟨by rw [f 67 (by decide) (by decide) (by decide) (by decide)]; exact b1, fun p hp => by rw [f 72 (by decide) (by decide) (by decide) (by decide), eL 91 0 (by decide) (by decide)]; exact b2 p hp⟩,
    ⟨by rw [f 68 (by decide) (by decide) (by decide) (by decide)]; exact c1, fun p hp => ?_⟩, fun w hw => jMr_s (r w hw) (f 82 (by decide) (by decide) (by decide) (by decide)) (f 83 (by decide) (by decide) (by decide) (by decide)) (f 89 (by decide) (by decide) (by decide) (by decide)) (f 93 (by decide) (by decide) (by decide) (by decide)),
    ⟨by rw [f 85 (by decide) (by decide) (by decide) (by decide)]; exact s1, fun q => by rw [f 78 (by decide) (by decide) (by decide) (by decide), f 79 (by decide) (by decide) (by decide) (by decide)]; exact s2 q⟩, by rw [f 86 (by decide) (by decide) (by decide) (by decide)]; exact s3, by rw [f 80 (by decide) (by decide) (by decide) (by decide)]; exact s4, by rw [f 87 (by decide) (by decide) (by decide) (by decide)]; exact s5, by rw [f 81 (by decide) (by decide) (by decide) (by decide)]; exact s6, by rw [f 88 (by decide) (by decide) (by decide) (by decide)]; exact s7⟩, ?_⟩
  · have hj1 : j < V 0 0 + 1 := hj
    rw [e70, e71, e90]
    by_cases e : j = V 0 0
    · subst e
      rw [jg_us, jg_us, jg_Lus, jv2_s, jv2_n (fun y => by omega), jv2_s, jw2_s]
      exact ⟨rfl, rfl, rfl⟩
    · rw [jg_un (by omega), jg_un (by omega), jg_Lun (by omega), jv2_n (fun y => by omega), jv2_n (fun y => by omega), jv2_n (fun y => by omega), jv2_n (fun y => by omega), jv2_n (fun y => by omega), jv2_n (fun y => by omega), jw2_n (fun y => by omega)]
      exact a2 j (by omega)
  · have hp1 : p < V 0 2 := hp
    refine ⟨?_, by rw [eL 92 0 (by decide) (by decide)]; exact (c2 p hp1).2⟩
    unfold jMd
    rw [f 73 (by decide) (by decide) (by decide) (by decide), f 74 (by decide) (by decide) (by decide) (by decide), f 75 (by decide) (by decide) (by decide) (by decide), f 76 (by decide) (by decide) (by decide) (by decide), f 77 (by decide) (by decide) (by decide) (by decide), f 84 (by decide) (by decide) (by decide) (by decide)]
    exact (c2 p hp1).1
  · rw [f 93 (by decide) (by decide) (by decide) (by decide), f 94 (by decide) (by decide) (by decide) (by decide)]
    exact d
set_option maxHeartbeats 800000 in
set_option maxRecDepth 100000 in
theorem eM_month_g {d : Nat} {h : jx_H} {Q : Option jx_V → jx_H → Prop} {h0 : jx_H} {B : Nat → Int32} {sz β t : Nat} {V : Nat → Nat → Nat} {W : Nat → Nat → List Nat} {D : Nat → Int32} (x : jML h B sz β t V W D) (F : jMF β h0 h) (hβ : β < 2) (hn : V 0 0 < 6) (hW : jnW (W 0) (V 0 0)) (k0 : jT_K B sz t = 3) (n0 : jnF (W 0) (jT_wd B sz (jT_p B sz t)) (V 0 0) 0 = none) (k1 : jT_K B sz (t + 1) = 107) (k2 : jT_K B sz (t + 2) = 2) (r2 : jT_v B sz (jT_p B sz (t + 2)) ≤ 31) (k3 : jT_K B sz (t + 3) = 108) (k4 : jT_K B sz (t + 4) = 2) (r4 : jT_v B sz (jT_p B sz (t + 2)) ≤ jT_v B sz (jT_p B sz (t + 4)) ∧ jT_v B sz (jT_p B sz (t + 4)) ≤ 31) (k : ∀ h', jMF β h0 h' → jML h' B sz β (t + 5) (jv2 (jv2 (jv2 V 0 0 (V 0 0 + 1)) 1 (V 0 0) (jT_v B sz (jT_p B sz (t + 2)))) 2 (V 0 0) (jT_v B sz (jT_p B sz (t + 4)))) (jw2 W 0 (V 0 0) (jT_wd B sz (jT_p B sz t))) D → Q none h')  : jx_Ev jm_MD_readMonth (d + 8) 0 0 false 1 [jv_r 11 0] h Q := by
  show jx_W (jm_MD_readMonth, d + 8, 0, 0, false, 1, _) Q 0 0 0 [some (jv_r 11 0), none] [] _
  obtain ⟨⟨t0, m0, f0, b0, -, -, -, -⟩, ⟨⟨a1, a2⟩, -⟩, -⟩ := id x
  have xb := b0
  have hr : ∀ j, j < V 0 0 → jh_L h 90 0 (6 * β + j) = jT_key (W 0 j) := fun j hj => (a2 j hj).2.2
  refine jr_ic rfl ?_
  refine jr_aload rfl rfl ?_
  refine jr_getI rfl rfl ?_
  refine jr_imul rfl ?_
  refine jr_aload rfl rfl ?_
  refine jr_getR rfl rfl rfl rfl (Or.inl rfl) ?_
  refine jr_aload rfl rfl ?_
  refine jr_getI rfl rfl ?_
  refine jr_iald (len := 2) rfl rfl b0 (by omega) ?_
  refine jr_iadd rfl ?_
  rw [xb, a1, show (6 : Int32) * nI β + nI (V 0 0) = nI (6 * β + V 0 0) from jn_add (jn_mul rfl rfl) rfl]
  refine jr_ist1 rfl rfl ?_
  refine jr_aload rfl rfl ?_
  refine jr_getR rfl rfl rfl rfl (Or.inl rfl) ?_
  refine jr_iload rfl rfl ?_
  refine jr_aload rfl rfl ?_
  refine jr_aload rfl rfl ?_
  refine jr_aload rfl rfl ?_
  refine jr_getR rfl rfl rfl rfl (Or.inl rfl) ?_
  refine jr_ic rfl ?_
  refine jr_aload rfl rfl ?_
  refine jr_getI rfl rfl ?_
  refine jr_imul rfl ?_
  refine jr_aload rfl rfl ?_
  refine jr_getR rfl rfl rfl rfl (Or.inl rfl) ?_
  refine jr_aload rfl rfl ?_
  refine jr_getI rfl rfl ?_
  refine jr_iald (len := 2) rfl rfl b0 (by omega) ?_
  rw [xb, a1, show (6 : Int32) * nI β = nI (6 * β) from jn_mul rfl rfl]
  refine jr_cv3 (mc' := 0) (ms' := 0) rfl jm_MD_here_n jm_MD_here_f rfl rfl rfl rfl rfl rfl rfl (Nat.zero_le _) (Nat.zero_le _) ?_
  refine eM_here_m m0 hβ hW hr (by omega) ?_
  rw [if_pos k0, n0]
  refine jr_cv1 (mc' := 0) (ms' := 0) rfl jm_MD_fresh_n jm_MD_fresh_f rfl rfl rfl rfl rfl rfl rfl (Nat.zero_le _) (Nat.zero_le _) ?_
  refine eM_fresh_y (B := B) (sz := sz) (t := t) t0 m0 f0 k0 (fun h1 g1 m1 => ?_)
  have t1 := jX_t_MG g1 t0
  have f1 : jh_I h1 11 0 4 = 0 := (g1.2.2.2 4 (by decide)).trans f0
  have b1 : jh_I h1 11 0 44 = nI β := (g1.2.2.2 44 (by decide)).trans b0
  refine jr_last (len := 12) rfl rfl rfl (by omega) ?_
  refine jr_aload rfl rfl ?_
  refine jr_getR rfl rfl rfl rfl (Or.inl rfl) ?_
  refine jr_iload rfl rfl ?_
  refine jr_aload rfl rfl ?_
  refine jr_lc rfl ?_
  refine jr_ic rfl ?_
  refine jr_ic rfl ?_
  refine jr_cv3 (mc' := 0) (ms' := 0) rfl jm_MD_after_n jm_MD_after_f rfl rfl rfl rfl rfl rfl rfl (Nat.zero_le _) (Nat.zero_le _) ?_
  show jx_W (jm_MD_after, _, _, _, _, _, _) _ 0 0 0 [some _, some _, none, some _, some _] [] _
  refine jr_aload rfl rfl ?_
  refine jr_aload rfl rfl ?_
  refine jr_lload rfl rfl ?_
  refine jr_cv1 (mc' := 0) (ms' := 0) rfl jm_MD_isWord_n jm_MD_isWord_f rfl rfl rfl rfl rfl rfl rfl (Nat.zero_le _) (Nat.zero_le _) ?_
  refine eM_isWord (B := B) (sz := sz) (t := t + 1) m1 (i := 7) (by decide) jT_W7 ?_
  refine jr_cv1 (mc' := 0) (ms' := 0) rfl jm_MD_must_n jm_MD_must_f rfl rfl rfl rfl rfl rfl rfl (Nat.zero_le _) (Nat.zero_le _) ?_
  refine eM_must_y (B := B) (sz := sz) (t := t + 1) t1 m1 f1 (by rw [if_pos k1]; decide) (fun h2 g2 m2 => ?_)
  have t2 := jX_t_MG g2 t1
  have f2 : jh_I h2 11 0 4 = 0 := (g2.2.2.2 4 (by decide)).trans f1
  have b2 : jh_I h2 11 0 44 = nI β := (g2.2.2.2 44 (by decide)).trans b1
  refine jr_aload rfl rfl ?_
  refine jr_iload rfl rfl ?_
  refine jr_iload rfl rfl ?_
  refine jr_cv2 (mc' := 0) (ms' := 0) rfl jm_MD_numeral_n jm_MD_numeral_f rfl rfl rfl rfl rfl rfl rfl (Nat.zero_le _) (Nat.zero_le _) ?_
  refine eM_num_y (B := B) (sz := sz) (lo := 0) (hi := 31) (t := t + 2) t2 m2 f2 (by omega) (by omega) k2 (Nat.zero_le _) r2 (fun h3 g3 m3 => ?_)
  have t3 := jX_t_MG g3 t2
  have f3 : jh_I h3 11 0 4 = 0 := (g3.2.2.2 4 (by decide)).trans f2
  have b3 : jh_I h3 11 0 44 = nI β := (g3.2.2.2 44 (by decide)).trans b2
  refine jr_iret rfl rfl (Nat.zero_le _) (Nat.zero_le _) ?_
  refine jr_iast (len := 12) rfl rfl rfl (by omega) ?_
  refine jr_aload rfl rfl ?_
  refine jr_getR rfl rfl rfl rfl (Or.inl rfl) ?_
  refine jr_iload rfl rfl ?_
  refine jr_aload rfl rfl ?_
  refine jr_lc rfl ?_
  refine jr_aload rfl rfl ?_
  refine jr_getR rfl rfl rfl rfl (Or.inl rfl) ?_
  refine jr_iload rfl rfl ?_
  refine jr_iald (len := 12) rfl rfl rfl (by omega) ?_
  rw [jg_Iuu]
  refine jr_ic rfl ?_
  refine jr_cv3 (mc' := 0) (ms' := 0) rfl jm_MD_after_n jm_MD_after_f rfl rfl rfl rfl rfl rfl rfl (Nat.zero_le _) (Nat.zero_le _) ?_
  show jx_W (jm_MD_after, _, _, _, _, _, _) _ 0 0 0 [some _, some _, none, some _, some _] [] _
  refine jr_aload rfl rfl ?_
  refine jr_aload rfl rfl ?_
  refine jr_lload rfl rfl ?_
  refine jr_cv1 (mc' := 0) (ms' := 0) rfl jm_MD_isWord_n jm_MD_isWord_f rfl rfl rfl rfl rfl rfl rfl (Nat.zero_le _) (Nat.zero_le _) ?_
  refine eM_isWord (B := B) (sz := sz) (t := t + 3) m3 (i := 8) (by decide) jT_W8 ?_
  refine jr_cv1 (mc' := 0) (ms' := 0) rfl jm_MD_must_n jm_MD_must_f rfl rfl rfl rfl rfl rfl rfl (Nat.zero_le _) (Nat.zero_le _) ?_
  refine eM_must_y (B := B) (sz := sz) (t := t + 3) t3 m3 f3 (by rw [if_pos k3]; decide) (fun h4 g4 m4 => ?_)
  have t4 := jX_t_MG g4 t3
  have f4 : jh_I h4 11 0 4 = 0 := (g4.2.2.2 4 (by decide)).trans f3
  have b4 : jh_I h4 11 0 44 = nI β := (g4.2.2.2 44 (by decide)).trans b3
  refine jr_aload rfl rfl ?_
  refine jr_iload rfl rfl ?_
  refine jr_iload rfl rfl ?_
  refine jr_cv2 (mc' := 0) (ms' := 0) rfl jm_MD_numeral_n jm_MD_numeral_f rfl rfl rfl rfl rfl rfl rfl (Nat.zero_le _) (Nat.zero_le _) ?_
  refine eM_num_y (B := B) (sz := sz) (lo := (jT_v B sz (jT_p B sz (t + 2)))) (hi := 31) (t := t + 4) t4 m4 f4 (by omega) (by omega) k4 r4.1 r4.2 (fun h5 g5 m5 => ?_)
  have t5 := jX_t_MG g5 t4
  have f5 : jh_I h5 11 0 4 = 0 := (g5.2.2.2 4 (by decide)).trans f4
  have b5 : jh_I h5 11 0 44 = nI β := (g5.2.2.2 44 (by decide)).trans b4
  refine jr_iret rfl rfl (Nat.zero_le _) (Nat.zero_le _) ?_
  refine jr_iast (len := 12) rfl rfl rfl (by omega) ?_
  refine jr_aload rfl rfl ?_
  refine jr_getR rfl rfl rfl rfl (Or.inl rfl) ?_
  refine jr_aload rfl rfl ?_
  refine jr_getI rfl rfl ?_
  refine jr_dup2 rfl ?_
  refine jr_iald (len := 2) rfl rfl b5 (by omega) ?_
  refine jr_ic rfl ?_
  refine jr_iadd rfl ?_
  rw [show jh_I (ju_I (h5) 71 0 (upd (jh_I (h5) 71 0) ((6 * β + V 0 0)) (nI (jT_v B sz (jT_p B sz (t + 4)))))) 66 0 β = nI (V 0 0) from (congrFun ((g5.1 66 0 (by decide)).trans ((g4.1 66 0 (by decide)).trans ((g3.1 66 0 (by decide)).trans ((g2.1 66 0 (by decide)).trans (g1.1 66 0 (by decide)))))) β).trans a1]
  rw [show nI (V 0 0) + 1 = nI (V 0 0 + 1) from jn_S _]
  refine jr_iast (len := 2) rfl rfl b5 (by omega) ?_
  refine jr_vret rfl rfl (Nat.zero_le _) (Nat.zero_le _) ?_
  refine k _ (jMF_I (a := 66) (w := 1) (jMF_I (a := 71) (w := 6) (jMF_G (jMF_G (jMF_I (a := 70) (w := 6) (jMF_G (jMF_G (jMF_L (a := 90) (w := 6) (jMF_G (F) g1) (by decide) (by decide) (by omega) (by omega)) g2) g3) (by decide) (by decide) (by omega) (by omega)) g4) g5) (by decide) (by decide) (by omega) (by omega)) (by decide) (by decide) (by omega) (by omega)) (jML_month x t5 m5 f5 b5 ?_ ?_ ?_ ?_ ?_ ?_ ?_)
  · exact (g5.2.2.2 45 (by decide)).trans ((g4.2.2.2 45 (by decide)).trans ((g3.2.2.2 45 (by decide)).trans ((g2.2.2.2 45 (by decide)).trans (g1.2.2.2 45 (by decide)))))
  · exact congrArg (fun F => upd F (β) (nI (V 0 0 + 1))) ((g5.1 66 0 (by decide)).trans ((g4.1 66 0 (by decide)).trans ((g3.1 66 0 (by decide)).trans ((g2.1 66 0 (by decide)).trans (g1.1 66 0 (by decide))))))
  · exact (g5.1 70 0 (by decide)).trans ((g4.1 70 0 (by decide)).trans (congrArg (fun F => upd F ((6 * β + V 0 0)) (nI (jT_v B sz (jT_p B sz (t + 2))))) ((g3.1 70 0 (by decide)).trans ((g2.1 70 0 (by decide)).trans (g1.1 70 0 (by decide))))))
  · exact congrArg (fun F => upd F ((6 * β + V 0 0)) (nI (jT_v B sz (jT_p B sz (t + 4))))) ((g5.1 71 0 (by decide)).trans ((g4.1 71 0 (by decide)).trans ((g3.1 71 0 (by decide)).trans ((g2.1 71 0 (by decide)).trans (g1.1 71 0 (by decide))))))
  · exact (g5.2.1 90 0 (by decide)).trans ((g4.2.1 90 0 (by decide)).trans ((g3.2.1 90 0 (by decide)).trans ((g2.2.1 90 0 (by decide)).trans (congrArg (fun F => vp_updL F ((6 * β + V 0 0)) ((jT_key (jT_wd B sz (jT_p B sz t))))) (g1.2.1 90 0 (by decide))))))
  · exact fun a b z11 z66 z70 z71 => (if_neg (fun y => z66 y.1)).trans ((if_neg (fun y => z71 y.1)).trans ((g5.1 a b z11).trans ((g4.1 a b z11).trans ((if_neg (fun y => z70 y.1)).trans ((g3.1 a b z11).trans ((g2.1 a b z11).trans (g1.1 a b z11)))))))
  · exact fun a b z11 z90 => (g5.2.1 a b z11).trans ((g4.2.1 a b z11).trans ((g3.2.1 a b z11).trans ((g2.2.1 a b z11).trans ((if_neg (fun y => z90 y.1)).trans (g1.2.1 a b z11)))))

set_option maxHeartbeats 800000 in
set_option maxRecDepth 100000 in
theorem eM_month_b0 {d : Nat} {h : jx_H} {Q : Option jx_V → jx_H → Prop} {h0 : jx_H} {B : Nat → Int32} {sz β t : Nat} {V : Nat → Nat → Nat} {W : Nat → Nat → List Nat} {D : Nat → Int32} (x : jML h B sz β t V W D) (F : jMF β h0 h) (hβ : β < 2) (hn : V 0 0 < 6) (hW : jnW (W 0) (V 0 0)) (k0 : ¬ jT_K B sz t = 3) (k : ∀ h', jMF β h0 h' → jh_I h' 11 0 4 = jX_kd (jT_K B sz t) → jPl h' (jT_p B sz t) → Q none h')  : jx_Ev jm_MD_readMonth (d + 8) 0 0 false 1 [jv_r 11 0] h Q := by
  show jx_W (jm_MD_readMonth, d + 8, 0, 0, false, 1, _) Q 0 0 0 [some (jv_r 11 0), none] [] _
  obtain ⟨⟨t0, m0, f0, b0, -, -, -, -⟩, ⟨⟨a1, a2⟩, -⟩, -⟩ := id x
  have xb := b0
  have hr : ∀ j, j < V 0 0 → jh_L h 90 0 (6 * β + j) = jT_key (W 0 j) := fun j hj => (a2 j hj).2.2
  refine jr_ic rfl ?_
  refine jr_aload rfl rfl ?_
  refine jr_getI rfl rfl ?_
  refine jr_imul rfl ?_
  refine jr_aload rfl rfl ?_
  refine jr_getR rfl rfl rfl rfl (Or.inl rfl) ?_
  refine jr_aload rfl rfl ?_
  refine jr_getI rfl rfl ?_
  refine jr_iald (len := 2) rfl rfl b0 (by omega) ?_
  refine jr_iadd rfl ?_
  rw [xb, a1, show (6 : Int32) * nI β + nI (V 0 0) = nI (6 * β + V 0 0) from jn_add (jn_mul rfl rfl) rfl]
  refine jr_ist1 rfl rfl ?_
  refine jr_aload rfl rfl ?_
  refine jr_getR rfl rfl rfl rfl (Or.inl rfl) ?_
  refine jr_iload rfl rfl ?_
  refine jr_aload rfl rfl ?_
  refine jr_aload rfl rfl ?_
  refine jr_aload rfl rfl ?_
  refine jr_getR rfl rfl rfl rfl (Or.inl rfl) ?_
  refine jr_ic rfl ?_
  refine jr_aload rfl rfl ?_
  refine jr_getI rfl rfl ?_
  refine jr_imul rfl ?_
  refine jr_aload rfl rfl ?_
  refine jr_getR rfl rfl rfl rfl (Or.inl rfl) ?_
  refine jr_aload rfl rfl ?_
  refine jr_getI rfl rfl ?_
  refine jr_iald (len := 2) rfl rfl b0 (by omega) ?_
  rw [xb, a1, show (6 : Int32) * nI β = nI (6 * β) from jn_mul rfl rfl]
  refine jr_cv3 (mc' := 0) (ms' := 0) rfl jm_MD_here_n jm_MD_here_f rfl rfl rfl rfl rfl rfl rfl (Nat.zero_le _) (Nat.zero_le _) ?_
  refine eM_here_m m0 hβ hW hr (by omega) ?_
  rw [if_neg k0]
  refine jr_cv1 (mc' := 0) (ms' := 0) rfl jm_MD_fresh_n jm_MD_fresh_f rfl rfl rfl rfl rfl rfl rfl (Nat.zero_le _) (Nat.zero_le _) ?_
  refine eM_fresh_n (B := B) (sz := sz) (t := t) t0 m0 f0 k0 (fun h1 v g1 => ?_)
  have e1 : ¬ jh_I h1 11 0 4 = 0 := by rw [g1.2.2.2.1]; exact jX_kd_n _
  have m1 := jT_mc_ft g1 m0
  have b1 : jh_I h1 11 0 44 = nI β := (g1.2.2.1 44 (by decide) (by decide)).trans b0
  refine jr_last (len := 12) rfl rfl rfl (by omega) ?_
  refine jr_aload rfl rfl ?_
  refine jr_getR rfl rfl rfl rfl (Or.inl rfl) ?_
  refine jr_iload rfl rfl ?_
  refine jr_aload rfl rfl ?_
  refine jr_lc rfl ?_
  refine jr_ic rfl ?_
  refine jr_ic rfl ?_
  refine jr_cv3 (mc' := 0) (ms' := 0) rfl jm_MD_after_n jm_MD_after_f rfl rfl rfl rfl rfl rfl rfl (Nat.zero_le _) (Nat.zero_le _) ?_
  show jx_W (jm_MD_after, _, _, _, _, _, _) _ 0 0 0 [some _, some _, none, some _, some _] [] _
  refine jr_aload rfl rfl ?_
  refine jr_aload rfl rfl ?_
  refine jr_lload rfl rfl ?_
  refine jr_cv1 (mc' := 0) (ms' := 0) rfl jm_MD_isWord_n jm_MD_isWord_f rfl rfl rfl rfl rfl rfl rfl (Nat.zero_le _) (Nat.zero_le _) ?_
  refine eM_isWord (B := B) (sz := sz) (t := t) m1 (i := 7) (by decide) jT_W7 ?_
  refine jr_cv1 (mc' := 0) (ms' := 0) rfl jm_MD_must_n jm_MD_must_f rfl rfl rfl rfl rfl rfl rfl (Nat.zero_le _) (Nat.zero_le _) ?_
  refine eM_must_b e1 ?_
  refine jr_aload rfl rfl ?_
  refine jr_iload rfl rfl ?_
  refine jr_iload rfl rfl ?_
  refine jr_cv2 (mc' := 0) (ms' := 0) rfl jm_MD_numeral_n jm_MD_numeral_f rfl rfl rfl rfl rfl rfl rfl (Nat.zero_le _) (Nat.zero_le _) ?_
  refine eM_num_b (lo := 0) (hi := 31) e1 ?_
  refine jr_iret rfl rfl (Nat.zero_le _) (Nat.zero_le _) ?_
  refine jr_iast (len := 12) rfl rfl rfl (by omega) ?_
  refine jr_aload rfl rfl ?_
  refine jr_getR rfl rfl rfl rfl (Or.inl rfl) ?_
  refine jr_iload rfl rfl ?_
  refine jr_aload rfl rfl ?_
  refine jr_lc rfl ?_
  refine jr_aload rfl rfl ?_
  refine jr_getR rfl rfl rfl rfl (Or.inl rfl) ?_
  refine jr_iload rfl rfl ?_
  refine jr_iald (len := 12) rfl rfl rfl (by omega) ?_
  rw [jg_Iuu]
  refine jr_ic rfl ?_
  refine jr_cv3 (mc' := 0) (ms' := 0) rfl jm_MD_after_n jm_MD_after_f rfl rfl rfl rfl rfl rfl rfl (Nat.zero_le _) (Nat.zero_le _) ?_
  show jx_W (jm_MD_after, _, _, _, _, _, _) _ 0 0 0 [some _, some _, none, some _, some _] [] _
  refine jr_aload rfl rfl ?_
  refine jr_aload rfl rfl ?_
  refine jr_lload rfl rfl ?_
  refine jr_cv1 (mc' := 0) (ms' := 0) rfl jm_MD_isWord_n jm_MD_isWord_f rfl rfl rfl rfl rfl rfl rfl (Nat.zero_le _) (Nat.zero_le _) ?_
  refine eM_isWord (B := B) (sz := sz) (t := t) m1 (i := 8) (by decide) jT_W8 ?_
  refine jr_cv1 (mc' := 0) (ms' := 0) rfl jm_MD_must_n jm_MD_must_f rfl rfl rfl rfl rfl rfl rfl (Nat.zero_le _) (Nat.zero_le _) ?_
  refine eM_must_b e1 ?_
  refine jr_aload rfl rfl ?_
  refine jr_iload rfl rfl ?_
  refine jr_iload rfl rfl ?_
  refine jr_cv2 (mc' := 0) (ms' := 0) rfl jm_MD_numeral_n jm_MD_numeral_f rfl rfl rfl rfl rfl rfl rfl (Nat.zero_le _) (Nat.zero_le _) ?_
  refine eM_num_b (lo := 0) (hi := 31) e1 ?_
  refine jr_iret rfl rfl (Nat.zero_le _) (Nat.zero_le _) ?_
  refine jr_iast (len := 12) rfl rfl rfl (by omega) ?_
  refine jr_aload rfl rfl ?_
  refine jr_getR rfl rfl rfl rfl (Or.inl rfl) ?_
  refine jr_aload rfl rfl ?_
  refine jr_getI rfl rfl ?_
  refine jr_dup2 rfl ?_
  refine jr_iald (len := 2) rfl rfl b1 (by omega) ?_
  refine jr_ic rfl ?_
  refine jr_iadd rfl ?_
  rw [show jh_I (ju_I (ju_I (ju_L (h1) 90 0 (vp_updL (jh_L (h1) 90 0) ((6 * β + V 0 0)) (v))) 70 0 (upd (jh_I (ju_L (h1) 90 0 (vp_updL (jh_L (h1) 90 0) ((6 * β + V 0 0)) (v))) 70 0) ((6 * β + V 0 0)) (nI 0))) 71 0 (upd (jh_I (ju_I (ju_L (h1) 90 0 (vp_updL (jh_L (h1) 90 0) ((6 * β + V 0 0)) (v))) 70 0 (upd (jh_I (ju_L (h1) 90 0 (vp_updL (jh_L (h1) 90 0) ((6 * β + V 0 0)) (v))) 70 0) ((6 * β + V 0 0)) (nI 0))) 71 0) ((6 * β + V 0 0)) (nI 0))) 66 0 β = nI (V 0 0) from (congrFun (g1.1 66 0 (by decide)) β).trans a1]
  rw [show nI (V 0 0) + 1 = nI (V 0 0 + 1) from jn_S _]
  refine jr_iast (len := 2) rfl rfl b1 (by omega) ?_
  refine jr_vret rfl rfl (Nat.zero_le _) (Nat.zero_le _) ?_
  exact k _ (jMF_I (a := 66) (w := 1) (jMF_I (a := 71) (w := 6) (jMF_I (a := 70) (w := 6) (jMF_L (a := 90) (w := 6) (jMF_ft (F) g1) (by decide) (by decide) (by omega) (by omega)) (by decide) (by decide) (by omega) (by omega)) (by decide) (by decide) (by omega) (by omega)) (by decide) (by decide) (by omega) (by omega)) g1.2.2.2.1 g1.2.2.2.2

set_option maxHeartbeats 800000 in
set_option maxRecDepth 100000 in
theorem eM_month_b1 {d : Nat} {h : jx_H} {Q : Option jx_V → jx_H → Prop} {h0 : jx_H} {B : Nat → Int32} {sz β t : Nat} {V : Nat → Nat → Nat} {W : Nat → Nat → List Nat} {D : Nat → Int32} (x : jML h B sz β t V W D) (F : jMF β h0 h) (hβ : β < 2) (hn : V 0 0 < 6) (hW : jnW (W 0) (V 0 0)) (k0 : jT_K B sz t = 3) (n0 : ∃ j, jnF (W 0) (jT_wd B sz (jT_p B sz t)) (V 0 0) 0 = some j) (k : ∀ h', jMF β h0 h' → jh_I h' 11 0 4 = 3 → jPl h' (jT_p B sz t) → Q none h')  : jx_Ev jm_MD_readMonth (d + 8) 0 0 false 1 [jv_r 11 0] h Q := by
  show jx_W (jm_MD_readMonth, d + 8, 0, 0, false, 1, _) Q 0 0 0 [some (jv_r 11 0), none] [] _
  obtain ⟨⟨t0, m0, f0, b0, -, -, -, -⟩, ⟨⟨a1, a2⟩, -⟩, -⟩ := id x
  have xb := b0
  have hr : ∀ j, j < V 0 0 → jh_L h 90 0 (6 * β + j) = jT_key (W 0 j) := fun j hj => (a2 j hj).2.2
  refine jr_ic rfl ?_
  refine jr_aload rfl rfl ?_
  refine jr_getI rfl rfl ?_
  refine jr_imul rfl ?_
  refine jr_aload rfl rfl ?_
  refine jr_getR rfl rfl rfl rfl (Or.inl rfl) ?_
  refine jr_aload rfl rfl ?_
  refine jr_getI rfl rfl ?_
  refine jr_iald (len := 2) rfl rfl b0 (by omega) ?_
  refine jr_iadd rfl ?_
  rw [xb, a1, show (6 : Int32) * nI β + nI (V 0 0) = nI (6 * β + V 0 0) from jn_add (jn_mul rfl rfl) rfl]
  refine jr_ist1 rfl rfl ?_
  refine jr_aload rfl rfl ?_
  refine jr_getR rfl rfl rfl rfl (Or.inl rfl) ?_
  refine jr_iload rfl rfl ?_
  refine jr_aload rfl rfl ?_
  refine jr_aload rfl rfl ?_
  refine jr_aload rfl rfl ?_
  refine jr_getR rfl rfl rfl rfl (Or.inl rfl) ?_
  refine jr_ic rfl ?_
  refine jr_aload rfl rfl ?_
  refine jr_getI rfl rfl ?_
  refine jr_imul rfl ?_
  refine jr_aload rfl rfl ?_
  refine jr_getR rfl rfl rfl rfl (Or.inl rfl) ?_
  refine jr_aload rfl rfl ?_
  refine jr_getI rfl rfl ?_
  refine jr_iald (len := 2) rfl rfl b0 (by omega) ?_
  rw [xb, a1, show (6 : Int32) * nI β = nI (6 * β) from jn_mul rfl rfl]
  refine jr_cv3 (mc' := 0) (ms' := 0) rfl jm_MD_here_n jm_MD_here_f rfl rfl rfl rfl rfl rfl rfl (Nat.zero_le _) (Nat.zero_le _) ?_
  refine eM_here_m m0 hβ hW hr (by omega) ?_
  rw [if_pos k0]
  obtain ⟨j, n0⟩ := n0
  have hj := (jnF_lt _ _ j n0).2.1
  rw [n0]
  refine jr_cv1 (mc' := 0) (ms' := 0) rfl jm_MD_fresh_n jm_MD_fresh_f rfl rfl rfl rfl rfl rfl rfl (Nat.zero_le _) (Nat.zero_le _) ?_
  refine eM_fresh_d (B := B) (sz := sz) (t := t) t0 m0 f0 (j := j) k0 (by omega) (fun h1 v g1 => ?_)
  have e1 : ¬ jh_I h1 11 0 4 = 0 := by rw [g1.2.2.2.1]; exact (by decide)
  have m1 := jT_mc_ft g1 m0
  have b1 : jh_I h1 11 0 44 = nI β := (g1.2.2.1 44 (by decide) (by decide)).trans b0
  refine jr_last (len := 12) rfl rfl rfl (by omega) ?_
  refine jr_aload rfl rfl ?_
  refine jr_getR rfl rfl rfl rfl (Or.inl rfl) ?_
  refine jr_iload rfl rfl ?_
  refine jr_aload rfl rfl ?_
  refine jr_lc rfl ?_
  refine jr_ic rfl ?_
  refine jr_ic rfl ?_
  refine jr_cv3 (mc' := 0) (ms' := 0) rfl jm_MD_after_n jm_MD_after_f rfl rfl rfl rfl rfl rfl rfl (Nat.zero_le _) (Nat.zero_le _) ?_
  show jx_W (jm_MD_after, _, _, _, _, _, _) _ 0 0 0 [some _, some _, none, some _, some _] [] _
  refine jr_aload rfl rfl ?_
  refine jr_aload rfl rfl ?_
  refine jr_lload rfl rfl ?_
  refine jr_cv1 (mc' := 0) (ms' := 0) rfl jm_MD_isWord_n jm_MD_isWord_f rfl rfl rfl rfl rfl rfl rfl (Nat.zero_le _) (Nat.zero_le _) ?_
  refine eM_isWord (B := B) (sz := sz) (t := t) m1 (i := 7) (by decide) jT_W7 ?_
  refine jr_cv1 (mc' := 0) (ms' := 0) rfl jm_MD_must_n jm_MD_must_f rfl rfl rfl rfl rfl rfl rfl (Nat.zero_le _) (Nat.zero_le _) ?_
  refine eM_must_b e1 ?_
  refine jr_aload rfl rfl ?_
  refine jr_iload rfl rfl ?_
  refine jr_iload rfl rfl ?_
  refine jr_cv2 (mc' := 0) (ms' := 0) rfl jm_MD_numeral_n jm_MD_numeral_f rfl rfl rfl rfl rfl rfl rfl (Nat.zero_le _) (Nat.zero_le _) ?_
  refine eM_num_b (lo := 0) (hi := 31) e1 ?_
  refine jr_iret rfl rfl (Nat.zero_le _) (Nat.zero_le _) ?_
  refine jr_iast (len := 12) rfl rfl rfl (by omega) ?_
  refine jr_aload rfl rfl ?_
  refine jr_getR rfl rfl rfl rfl (Or.inl rfl) ?_
  refine jr_iload rfl rfl ?_
  refine jr_aload rfl rfl ?_
  refine jr_lc rfl ?_
  refine jr_aload rfl rfl ?_
  refine jr_getR rfl rfl rfl rfl (Or.inl rfl) ?_
  refine jr_iload rfl rfl ?_
  refine jr_iald (len := 12) rfl rfl rfl (by omega) ?_
  rw [jg_Iuu]
  refine jr_ic rfl ?_
  refine jr_cv3 (mc' := 0) (ms' := 0) rfl jm_MD_after_n jm_MD_after_f rfl rfl rfl rfl rfl rfl rfl (Nat.zero_le _) (Nat.zero_le _) ?_
  show jx_W (jm_MD_after, _, _, _, _, _, _) _ 0 0 0 [some _, some _, none, some _, some _] [] _
  refine jr_aload rfl rfl ?_
  refine jr_aload rfl rfl ?_
  refine jr_lload rfl rfl ?_
  refine jr_cv1 (mc' := 0) (ms' := 0) rfl jm_MD_isWord_n jm_MD_isWord_f rfl rfl rfl rfl rfl rfl rfl (Nat.zero_le _) (Nat.zero_le _) ?_
  refine eM_isWord (B := B) (sz := sz) (t := t) m1 (i := 8) (by decide) jT_W8 ?_
  refine jr_cv1 (mc' := 0) (ms' := 0) rfl jm_MD_must_n jm_MD_must_f rfl rfl rfl rfl rfl rfl rfl (Nat.zero_le _) (Nat.zero_le _) ?_
  refine eM_must_b e1 ?_
  refine jr_aload rfl rfl ?_
  refine jr_iload rfl rfl ?_
  refine jr_iload rfl rfl ?_
  refine jr_cv2 (mc' := 0) (ms' := 0) rfl jm_MD_numeral_n jm_MD_numeral_f rfl rfl rfl rfl rfl rfl rfl (Nat.zero_le _) (Nat.zero_le _) ?_
  refine eM_num_b (lo := 0) (hi := 31) e1 ?_
  refine jr_iret rfl rfl (Nat.zero_le _) (Nat.zero_le _) ?_
  refine jr_iast (len := 12) rfl rfl rfl (by omega) ?_
  refine jr_aload rfl rfl ?_
  refine jr_getR rfl rfl rfl rfl (Or.inl rfl) ?_
  refine jr_aload rfl rfl ?_
  refine jr_getI rfl rfl ?_
  refine jr_dup2 rfl ?_
  refine jr_iald (len := 2) rfl rfl b1 (by omega) ?_
  refine jr_ic rfl ?_
  refine jr_iadd rfl ?_
  rw [show jh_I (ju_I (ju_I (ju_L (h1) 90 0 (vp_updL (jh_L (h1) 90 0) ((6 * β + V 0 0)) (v))) 70 0 (upd (jh_I (ju_L (h1) 90 0 (vp_updL (jh_L (h1) 90 0) ((6 * β + V 0 0)) (v))) 70 0) ((6 * β + V 0 0)) (nI 0))) 71 0 (upd (jh_I (ju_I (ju_L (h1) 90 0 (vp_updL (jh_L (h1) 90 0) ((6 * β + V 0 0)) (v))) 70 0 (upd (jh_I (ju_L (h1) 90 0 (vp_updL (jh_L (h1) 90 0) ((6 * β + V 0 0)) (v))) 70 0) ((6 * β + V 0 0)) (nI 0))) 71 0) ((6 * β + V 0 0)) (nI 0))) 66 0 β = nI (V 0 0) from (congrFun (g1.1 66 0 (by decide)) β).trans a1]
  rw [show nI (V 0 0) + 1 = nI (V 0 0 + 1) from jn_S _]
  refine jr_iast (len := 2) rfl rfl b1 (by omega) ?_
  refine jr_vret rfl rfl (Nat.zero_le _) (Nat.zero_le _) ?_
  exact k _ (jMF_I (a := 66) (w := 1) (jMF_I (a := 71) (w := 6) (jMF_I (a := 70) (w := 6) (jMF_L (a := 90) (w := 6) (jMF_ft (F) g1) (by decide) (by decide) (by omega) (by omega)) (by decide) (by decide) (by omega) (by omega)) (by decide) (by decide) (by omega) (by omega)) (by decide) (by decide) (by omega) (by omega)) g1.2.2.2.1 g1.2.2.2.2

set_option maxHeartbeats 800000 in
set_option maxRecDepth 100000 in
theorem eM_month_b2 {d : Nat} {h : jx_H} {Q : Option jx_V → jx_H → Prop} {h0 : jx_H} {B : Nat → Int32} {sz β t : Nat} {V : Nat → Nat → Nat} {W : Nat → Nat → List Nat} {D : Nat → Int32} (x : jML h B sz β t V W D) (F : jMF β h0 h) (hβ : β < 2) (hn : V 0 0 < 6) (hW : jnW (W 0) (V 0 0)) (k0 : jT_K B sz t = 3) (n0 : jnF (W 0) (jT_wd B sz (jT_p B sz t)) (V 0 0) 0 = none) (k1 : ¬ jT_K B sz (t + 1) = 107) (k : ∀ h', jMF β h0 h' → jh_I h' 11 0 4 = jX_kd (jT_K B sz (t + 1)) → jPl h' (jT_p B sz (t + 1)) → Q none h')  : jx_Ev jm_MD_readMonth (d + 8) 0 0 false 1 [jv_r 11 0] h Q := by
  show jx_W (jm_MD_readMonth, d + 8, 0, 0, false, 1, _) Q 0 0 0 [some (jv_r 11 0), none] [] _
  obtain ⟨⟨t0, m0, f0, b0, -, -, -, -⟩, ⟨⟨a1, a2⟩, -⟩, -⟩ := id x
  have xb := b0
  have hr : ∀ j, j < V 0 0 → jh_L h 90 0 (6 * β + j) = jT_key (W 0 j) := fun j hj => (a2 j hj).2.2
  refine jr_ic rfl ?_
  refine jr_aload rfl rfl ?_
  refine jr_getI rfl rfl ?_
  refine jr_imul rfl ?_
  refine jr_aload rfl rfl ?_
  refine jr_getR rfl rfl rfl rfl (Or.inl rfl) ?_
  refine jr_aload rfl rfl ?_
  refine jr_getI rfl rfl ?_
  refine jr_iald (len := 2) rfl rfl b0 (by omega) ?_
  refine jr_iadd rfl ?_
  rw [xb, a1, show (6 : Int32) * nI β + nI (V 0 0) = nI (6 * β + V 0 0) from jn_add (jn_mul rfl rfl) rfl]
  refine jr_ist1 rfl rfl ?_
  refine jr_aload rfl rfl ?_
  refine jr_getR rfl rfl rfl rfl (Or.inl rfl) ?_
  refine jr_iload rfl rfl ?_
  refine jr_aload rfl rfl ?_
  refine jr_aload rfl rfl ?_
  refine jr_aload rfl rfl ?_
  refine jr_getR rfl rfl rfl rfl (Or.inl rfl) ?_
  refine jr_ic rfl ?_
  refine jr_aload rfl rfl ?_
  refine jr_getI rfl rfl ?_
  refine jr_imul rfl ?_
  refine jr_aload rfl rfl ?_
  refine jr_getR rfl rfl rfl rfl (Or.inl rfl) ?_
  refine jr_aload rfl rfl ?_
  refine jr_getI rfl rfl ?_
  refine jr_iald (len := 2) rfl rfl b0 (by omega) ?_
  rw [xb, a1, show (6 : Int32) * nI β = nI (6 * β) from jn_mul rfl rfl]
  refine jr_cv3 (mc' := 0) (ms' := 0) rfl jm_MD_here_n jm_MD_here_f rfl rfl rfl rfl rfl rfl rfl (Nat.zero_le _) (Nat.zero_le _) ?_
  refine eM_here_m m0 hβ hW hr (by omega) ?_
  rw [if_pos k0, n0]
  refine jr_cv1 (mc' := 0) (ms' := 0) rfl jm_MD_fresh_n jm_MD_fresh_f rfl rfl rfl rfl rfl rfl rfl (Nat.zero_le _) (Nat.zero_le _) ?_
  refine eM_fresh_y (B := B) (sz := sz) (t := t) t0 m0 f0 k0 (fun h1 g1 m1 => ?_)
  have t1 := jX_t_MG g1 t0
  have f1 : jh_I h1 11 0 4 = 0 := (g1.2.2.2 4 (by decide)).trans f0
  have b1 : jh_I h1 11 0 44 = nI β := (g1.2.2.2 44 (by decide)).trans b0
  refine jr_last (len := 12) rfl rfl rfl (by omega) ?_
  refine jr_aload rfl rfl ?_
  refine jr_getR rfl rfl rfl rfl (Or.inl rfl) ?_
  refine jr_iload rfl rfl ?_
  refine jr_aload rfl rfl ?_
  refine jr_lc rfl ?_
  refine jr_ic rfl ?_
  refine jr_ic rfl ?_
  refine jr_cv3 (mc' := 0) (ms' := 0) rfl jm_MD_after_n jm_MD_after_f rfl rfl rfl rfl rfl rfl rfl (Nat.zero_le _) (Nat.zero_le _) ?_
  show jx_W (jm_MD_after, _, _, _, _, _, _) _ 0 0 0 [some _, some _, none, some _, some _] [] _
  refine jr_aload rfl rfl ?_
  refine jr_aload rfl rfl ?_
  refine jr_lload rfl rfl ?_
  refine jr_cv1 (mc' := 0) (ms' := 0) rfl jm_MD_isWord_n jm_MD_isWord_f rfl rfl rfl rfl rfl rfl rfl (Nat.zero_le _) (Nat.zero_le _) ?_
  refine eM_isWord (B := B) (sz := sz) (t := t + 1) m1 (i := 7) (by decide) jT_W7 ?_
  refine jr_cv1 (mc' := 0) (ms' := 0) rfl jm_MD_must_n jm_MD_must_f rfl rfl rfl rfl rfl rfl rfl (Nat.zero_le _) (Nat.zero_le _) ?_
  refine eM_must_n (B := B) (sz := sz) (t := t + 1) t1 m1 f1 (if_neg k1) (fun h2 g2 => ?_)
  have e2 : ¬ jh_I h2 11 0 4 = 0 := by rw [g2.2.2.2.1]; exact jX_kd_n _
  have m2 := jT_mc_ft g2 m1
  have b2 : jh_I h2 11 0 44 = nI β := (g2.2.2.1 44 (by decide) (by decide)).trans b1
  refine jr_aload rfl rfl ?_
  refine jr_iload rfl rfl ?_
  refine jr_iload rfl rfl ?_
  refine jr_cv2 (mc' := 0) (ms' := 0) rfl jm_MD_numeral_n jm_MD_numeral_f rfl rfl rfl rfl rfl rfl rfl (Nat.zero_le _) (Nat.zero_le _) ?_
  refine eM_num_b (lo := 0) (hi := 31) e2 ?_
  refine jr_iret rfl rfl (Nat.zero_le _) (Nat.zero_le _) ?_
  refine jr_iast (len := 12) rfl rfl rfl (by omega) ?_
  refine jr_aload rfl rfl ?_
  refine jr_getR rfl rfl rfl rfl (Or.inl rfl) ?_
  refine jr_iload rfl rfl ?_
  refine jr_aload rfl rfl ?_
  refine jr_lc rfl ?_
  refine jr_aload rfl rfl ?_
  refine jr_getR rfl rfl rfl rfl (Or.inl rfl) ?_
  refine jr_iload rfl rfl ?_
  refine jr_iald (len := 12) rfl rfl rfl (by omega) ?_
  rw [jg_Iuu]
  refine jr_ic rfl ?_
  refine jr_cv3 (mc' := 0) (ms' := 0) rfl jm_MD_after_n jm_MD_after_f rfl rfl rfl rfl rfl rfl rfl (Nat.zero_le _) (Nat.zero_le _) ?_
  show jx_W (jm_MD_after, _, _, _, _, _, _) _ 0 0 0 [some _, some _, none, some _, some _] [] _
  refine jr_aload rfl rfl ?_
  refine jr_aload rfl rfl ?_
  refine jr_lload rfl rfl ?_
  refine jr_cv1 (mc' := 0) (ms' := 0) rfl jm_MD_isWord_n jm_MD_isWord_f rfl rfl rfl rfl rfl rfl rfl (Nat.zero_le _) (Nat.zero_le _) ?_
  refine eM_isWord (B := B) (sz := sz) (t := t + 1) m2 (i := 8) (by decide) jT_W8 ?_
  refine jr_cv1 (mc' := 0) (ms' := 0) rfl jm_MD_must_n jm_MD_must_f rfl rfl rfl rfl rfl rfl rfl (Nat.zero_le _) (Nat.zero_le _) ?_
  refine eM_must_b e2 ?_
  refine jr_aload rfl rfl ?_
  refine jr_iload rfl rfl ?_
  refine jr_iload rfl rfl ?_
  refine jr_cv2 (mc' := 0) (ms' := 0) rfl jm_MD_numeral_n jm_MD_numeral_f rfl rfl rfl rfl rfl rfl rfl (Nat.zero_le _) (Nat.zero_le _) ?_
  refine eM_num_b (lo := 0) (hi := 31) e2 ?_
  refine jr_iret rfl rfl (Nat.zero_le _) (Nat.zero_le _) ?_
  refine jr_iast (len := 12) rfl rfl rfl (by omega) ?_
  refine jr_aload rfl rfl ?_
  refine jr_getR rfl rfl rfl rfl (Or.inl rfl) ?_
  refine jr_aload rfl rfl ?_
  refine jr_getI rfl rfl ?_
  refine jr_dup2 rfl ?_
  refine jr_iald (len := 2) rfl rfl b2 (by omega) ?_
  refine jr_ic rfl ?_
  refine jr_iadd rfl ?_
  rw [show jh_I (ju_I (ju_I (h2) 70 0 (upd (jh_I (h2) 70 0) ((6 * β + V 0 0)) (nI 0))) 71 0 (upd (jh_I (ju_I (h2) 70 0 (upd (jh_I (h2) 70 0) ((6 * β + V 0 0)) (nI 0))) 71 0) ((6 * β + V 0 0)) (nI 0))) 66 0 β = nI (V 0 0) from (congrFun ((g2.1 66 0 (by decide)).trans (g1.1 66 0 (by decide))) β).trans a1]
  rw [show nI (V 0 0) + 1 = nI (V 0 0 + 1) from jn_S _]
  refine jr_iast (len := 2) rfl rfl b2 (by omega) ?_
  refine jr_vret rfl rfl (Nat.zero_le _) (Nat.zero_le _) ?_
  exact k _ (jMF_I (a := 66) (w := 1) (jMF_I (a := 71) (w := 6) (jMF_I (a := 70) (w := 6) (jMF_ft (jMF_L (a := 90) (w := 6) (jMF_G (F) g1) (by decide) (by decide) (by omega) (by omega)) g2) (by decide) (by decide) (by omega) (by omega)) (by decide) (by decide) (by omega) (by omega)) (by decide) (by decide) (by omega) (by omega)) g2.2.2.2.1 g2.2.2.2.2

set_option maxHeartbeats 800000 in
set_option maxRecDepth 100000 in
theorem eM_month_b3 {d : Nat} {h : jx_H} {Q : Option jx_V → jx_H → Prop} {h0 : jx_H} {B : Nat → Int32} {sz β t : Nat} {V : Nat → Nat → Nat} {W : Nat → Nat → List Nat} {D : Nat → Int32} (x : jML h B sz β t V W D) (F : jMF β h0 h) (hβ : β < 2) (hn : V 0 0 < 6) (hW : jnW (W 0) (V 0 0)) (k0 : jT_K B sz t = 3) (n0 : jnF (W 0) (jT_wd B sz (jT_p B sz t)) (V 0 0) 0 = none) (k1 : jT_K B sz (t + 1) = 107) (k2 : ¬ jT_K B sz (t + 2) = 2) (k : ∀ h', jMF β h0 h' → jh_I h' 11 0 4 = jX_kd (jT_K B sz (t + 2)) → jPl h' (jT_p B sz (t + 2)) → Q none h')  : jx_Ev jm_MD_readMonth (d + 8) 0 0 false 1 [jv_r 11 0] h Q := by
  show jx_W (jm_MD_readMonth, d + 8, 0, 0, false, 1, _) Q 0 0 0 [some (jv_r 11 0), none] [] _
  obtain ⟨⟨t0, m0, f0, b0, -, -, -, -⟩, ⟨⟨a1, a2⟩, -⟩, -⟩ := id x
  have xb := b0
  have hr : ∀ j, j < V 0 0 → jh_L h 90 0 (6 * β + j) = jT_key (W 0 j) := fun j hj => (a2 j hj).2.2
  refine jr_ic rfl ?_
  refine jr_aload rfl rfl ?_
  refine jr_getI rfl rfl ?_
  refine jr_imul rfl ?_
  refine jr_aload rfl rfl ?_
  refine jr_getR rfl rfl rfl rfl (Or.inl rfl) ?_
  refine jr_aload rfl rfl ?_
  refine jr_getI rfl rfl ?_
  refine jr_iald (len := 2) rfl rfl b0 (by omega) ?_
  refine jr_iadd rfl ?_
  rw [xb, a1, show (6 : Int32) * nI β + nI (V 0 0) = nI (6 * β + V 0 0) from jn_add (jn_mul rfl rfl) rfl]
  refine jr_ist1 rfl rfl ?_
  refine jr_aload rfl rfl ?_
  refine jr_getR rfl rfl rfl rfl (Or.inl rfl) ?_
  refine jr_iload rfl rfl ?_
  refine jr_aload rfl rfl ?_
  refine jr_aload rfl rfl ?_
  refine jr_aload rfl rfl ?_
  refine jr_getR rfl rfl rfl rfl (Or.inl rfl) ?_
  refine jr_ic rfl ?_
  refine jr_aload rfl rfl ?_
  refine jr_getI rfl rfl ?_
  refine jr_imul rfl ?_
  refine jr_aload rfl rfl ?_
  refine jr_getR rfl rfl rfl rfl (Or.inl rfl) ?_
  refine jr_aload rfl rfl ?_
  refine jr_getI rfl rfl ?_
  refine jr_iald (len := 2) rfl rfl b0 (by omega) ?_
  rw [xb, a1, show (6 : Int32) * nI β = nI (6 * β) from jn_mul rfl rfl]
  refine jr_cv3 (mc' := 0) (ms' := 0) rfl jm_MD_here_n jm_MD_here_f rfl rfl rfl rfl rfl rfl rfl (Nat.zero_le _) (Nat.zero_le _) ?_
  refine eM_here_m m0 hβ hW hr (by omega) ?_
  rw [if_pos k0, n0]
  refine jr_cv1 (mc' := 0) (ms' := 0) rfl jm_MD_fresh_n jm_MD_fresh_f rfl rfl rfl rfl rfl rfl rfl (Nat.zero_le _) (Nat.zero_le _) ?_
  refine eM_fresh_y (B := B) (sz := sz) (t := t) t0 m0 f0 k0 (fun h1 g1 m1 => ?_)
  have t1 := jX_t_MG g1 t0
  have f1 : jh_I h1 11 0 4 = 0 := (g1.2.2.2 4 (by decide)).trans f0
  have b1 : jh_I h1 11 0 44 = nI β := (g1.2.2.2 44 (by decide)).trans b0
  refine jr_last (len := 12) rfl rfl rfl (by omega) ?_
  refine jr_aload rfl rfl ?_
  refine jr_getR rfl rfl rfl rfl (Or.inl rfl) ?_
  refine jr_iload rfl rfl ?_
  refine jr_aload rfl rfl ?_
  refine jr_lc rfl ?_
  refine jr_ic rfl ?_
  refine jr_ic rfl ?_
  refine jr_cv3 (mc' := 0) (ms' := 0) rfl jm_MD_after_n jm_MD_after_f rfl rfl rfl rfl rfl rfl rfl (Nat.zero_le _) (Nat.zero_le _) ?_
  show jx_W (jm_MD_after, _, _, _, _, _, _) _ 0 0 0 [some _, some _, none, some _, some _] [] _
  refine jr_aload rfl rfl ?_
  refine jr_aload rfl rfl ?_
  refine jr_lload rfl rfl ?_
  refine jr_cv1 (mc' := 0) (ms' := 0) rfl jm_MD_isWord_n jm_MD_isWord_f rfl rfl rfl rfl rfl rfl rfl (Nat.zero_le _) (Nat.zero_le _) ?_
  refine eM_isWord (B := B) (sz := sz) (t := t + 1) m1 (i := 7) (by decide) jT_W7 ?_
  refine jr_cv1 (mc' := 0) (ms' := 0) rfl jm_MD_must_n jm_MD_must_f rfl rfl rfl rfl rfl rfl rfl (Nat.zero_le _) (Nat.zero_le _) ?_
  refine eM_must_y (B := B) (sz := sz) (t := t + 1) t1 m1 f1 (by rw [if_pos k1]; decide) (fun h2 g2 m2 => ?_)
  have t2 := jX_t_MG g2 t1
  have f2 : jh_I h2 11 0 4 = 0 := (g2.2.2.2 4 (by decide)).trans f1
  have b2 : jh_I h2 11 0 44 = nI β := (g2.2.2.2 44 (by decide)).trans b1
  refine jr_aload rfl rfl ?_
  refine jr_iload rfl rfl ?_
  refine jr_iload rfl rfl ?_
  refine jr_cv2 (mc' := 0) (ms' := 0) rfl jm_MD_numeral_n jm_MD_numeral_f rfl rfl rfl rfl rfl rfl rfl (Nat.zero_le _) (Nat.zero_le _) ?_
  refine eM_num_n (B := B) (sz := sz) (lo := 0) (hi := 31) (t := t + 2) t2 m2 f2 k2 (fun h3 g3 => ?_)
  have e3 : ¬ jh_I h3 11 0 4 = 0 := by rw [g3.2.2.2.1]; exact jX_kd_n _
  have m3 := jT_mc_ft g3 m2
  have b3 : jh_I h3 11 0 44 = nI β := (g3.2.2.1 44 (by decide) (by decide)).trans b2
  refine jr_iret rfl rfl (Nat.zero_le _) (Nat.zero_le _) ?_
  refine jr_iast (len := 12) rfl rfl rfl (by omega) ?_
  refine jr_aload rfl rfl ?_
  refine jr_getR rfl rfl rfl rfl (Or.inl rfl) ?_
  refine jr_iload rfl rfl ?_
  refine jr_aload rfl rfl ?_
  refine jr_lc rfl ?_
  refine jr_aload rfl rfl ?_
  refine jr_getR rfl rfl rfl rfl (Or.inl rfl) ?_
  refine jr_iload rfl rfl ?_
  refine jr_iald (len := 12) rfl rfl rfl (by omega) ?_
  rw [jg_Iuu]
  refine jr_ic rfl ?_
  refine jr_cv3 (mc' := 0) (ms' := 0) rfl jm_MD_after_n jm_MD_after_f rfl rfl rfl rfl rfl rfl rfl (Nat.zero_le _) (Nat.zero_le _) ?_
  show jx_W (jm_MD_after, _, _, _, _, _, _) _ 0 0 0 [some _, some _, none, some _, some _] [] _
  refine jr_aload rfl rfl ?_
  refine jr_aload rfl rfl ?_
  refine jr_lload rfl rfl ?_
  refine jr_cv1 (mc' := 0) (ms' := 0) rfl jm_MD_isWord_n jm_MD_isWord_f rfl rfl rfl rfl rfl rfl rfl (Nat.zero_le _) (Nat.zero_le _) ?_
  refine eM_isWord (B := B) (sz := sz) (t := t + 2) m3 (i := 8) (by decide) jT_W8 ?_
  refine jr_cv1 (mc' := 0) (ms' := 0) rfl jm_MD_must_n jm_MD_must_f rfl rfl rfl rfl rfl rfl rfl (Nat.zero_le _) (Nat.zero_le _) ?_
  refine eM_must_b e3 ?_
  refine jr_aload rfl rfl ?_
  refine jr_iload rfl rfl ?_
  refine jr_iload rfl rfl ?_
  refine jr_cv2 (mc' := 0) (ms' := 0) rfl jm_MD_numeral_n jm_MD_numeral_f rfl rfl rfl rfl rfl rfl rfl (Nat.zero_le _) (Nat.zero_le _) ?_
  refine eM_num_b (lo := 0) (hi := 31) e3 ?_
  refine jr_iret rfl rfl (Nat.zero_le _) (Nat.zero_le _) ?_
  refine jr_iast (len := 12) rfl rfl rfl (by omega) ?_
  refine jr_aload rfl rfl ?_
  refine jr_getR rfl rfl rfl rfl (Or.inl rfl) ?_
  refine jr_aload rfl rfl ?_
  refine jr_getI rfl rfl ?_
  refine jr_dup2 rfl ?_
  refine jr_iald (len := 2) rfl rfl b3 (by omega) ?_
  refine jr_ic rfl ?_
  refine jr_iadd rfl ?_
  rw [show jh_I (ju_I (ju_I (h3) 70 0 (upd (jh_I (h3) 70 0) ((6 * β + V 0 0)) (nI 0))) 71 0 (upd (jh_I (ju_I (h3) 70 0 (upd (jh_I (h3) 70 0) ((6 * β + V 0 0)) (nI 0))) 71 0) ((6 * β + V 0 0)) (nI 0))) 66 0 β = nI (V 0 0) from (congrFun ((g3.1 66 0 (by decide)).trans ((g2.1 66 0 (by decide)).trans (g1.1 66 0 (by decide)))) β).trans a1]
  rw [show nI (V 0 0) + 1 = nI (V 0 0 + 1) from jn_S _]
  refine jr_iast (len := 2) rfl rfl b3 (by omega) ?_
  refine jr_vret rfl rfl (Nat.zero_le _) (Nat.zero_le _) ?_
  exact k _ (jMF_I (a := 66) (w := 1) (jMF_I (a := 71) (w := 6) (jMF_I (a := 70) (w := 6) (jMF_ft (jMF_G (jMF_L (a := 90) (w := 6) (jMF_G (F) g1) (by decide) (by decide) (by omega) (by omega)) g2) g3) (by decide) (by decide) (by omega) (by omega)) (by decide) (by decide) (by omega) (by omega)) (by decide) (by decide) (by omega) (by omega)) g3.2.2.2.1 g3.2.2.2.2

set_option maxHeartbeats 800000 in
set_option maxRecDepth 100000 in
theorem eM_month_b4 {d : Nat} {h : jx_H} {Q : Option jx_V → jx_H → Prop} {h0 : jx_H} {B : Nat → Int32} {sz β t : Nat} {V : Nat → Nat → Nat} {W : Nat → Nat → List Nat} {D : Nat → Int32} (x : jML h B sz β t V W D) (F : jMF β h0 h) (hβ : β < 2) (hn : V 0 0 < 6) (hW : jnW (W 0) (V 0 0)) (k0 : jT_K B sz t = 3) (n0 : jnF (W 0) (jT_wd B sz (jT_p B sz t)) (V 0 0) 0 = none) (k1 : jT_K B sz (t + 1) = 107) (k2 : jT_K B sz (t + 2) = 2) (r2 : jT_v B sz (jT_p B sz (t + 2)) < 0 ∨ 31 < jT_v B sz (jT_p B sz (t + 2))) (k : ∀ h', jMF β h0 h' → jh_I h' 11 0 4 = 4 → jPl h' (jT_p B sz (t + 2)) → Q none h')  : jx_Ev jm_MD_readMonth (d + 8) 0 0 false 1 [jv_r 11 0] h Q := by
  show jx_W (jm_MD_readMonth, d + 8, 0, 0, false, 1, _) Q 0 0 0 [some (jv_r 11 0), none] [] _
  obtain ⟨⟨t0, m0, f0, b0, -, -, -, -⟩, ⟨⟨a1, a2⟩, -⟩, -⟩ := id x
  have xb := b0
  have hr : ∀ j, j < V 0 0 → jh_L h 90 0 (6 * β + j) = jT_key (W 0 j) := fun j hj => (a2 j hj).2.2
  refine jr_ic rfl ?_
  refine jr_aload rfl rfl ?_
  refine jr_getI rfl rfl ?_
  refine jr_imul rfl ?_
  refine jr_aload rfl rfl ?_
  refine jr_getR rfl rfl rfl rfl (Or.inl rfl) ?_
  refine jr_aload rfl rfl ?_
  refine jr_getI rfl rfl ?_
  refine jr_iald (len := 2) rfl rfl b0 (by omega) ?_
  refine jr_iadd rfl ?_
  rw [xb, a1, show (6 : Int32) * nI β + nI (V 0 0) = nI (6 * β + V 0 0) from jn_add (jn_mul rfl rfl) rfl]
  refine jr_ist1 rfl rfl ?_
  refine jr_aload rfl rfl ?_
  refine jr_getR rfl rfl rfl rfl (Or.inl rfl) ?_
  refine jr_iload rfl rfl ?_
  refine jr_aload rfl rfl ?_
  refine jr_aload rfl rfl ?_
  refine jr_aload rfl rfl ?_
  refine jr_getR rfl rfl rfl rfl (Or.inl rfl) ?_
  refine jr_ic rfl ?_
  refine jr_aload rfl rfl ?_
  refine jr_getI rfl rfl ?_
  refine jr_imul rfl ?_
  refine jr_aload rfl rfl ?_
  refine jr_getR rfl rfl rfl rfl (Or.inl rfl) ?_
  refine jr_aload rfl rfl ?_
  refine jr_getI rfl rfl ?_
  refine jr_iald (len := 2) rfl rfl b0 (by omega) ?_
  rw [xb, a1, show (6 : Int32) * nI β = nI (6 * β) from jn_mul rfl rfl]
  refine jr_cv3 (mc' := 0) (ms' := 0) rfl jm_MD_here_n jm_MD_here_f rfl rfl rfl rfl rfl rfl rfl (Nat.zero_le _) (Nat.zero_le _) ?_
  refine eM_here_m m0 hβ hW hr (by omega) ?_
  rw [if_pos k0, n0]
  refine jr_cv1 (mc' := 0) (ms' := 0) rfl jm_MD_fresh_n jm_MD_fresh_f rfl rfl rfl rfl rfl rfl rfl (Nat.zero_le _) (Nat.zero_le _) ?_
  refine eM_fresh_y (B := B) (sz := sz) (t := t) t0 m0 f0 k0 (fun h1 g1 m1 => ?_)
  have t1 := jX_t_MG g1 t0
  have f1 : jh_I h1 11 0 4 = 0 := (g1.2.2.2 4 (by decide)).trans f0
  have b1 : jh_I h1 11 0 44 = nI β := (g1.2.2.2 44 (by decide)).trans b0
  refine jr_last (len := 12) rfl rfl rfl (by omega) ?_
  refine jr_aload rfl rfl ?_
  refine jr_getR rfl rfl rfl rfl (Or.inl rfl) ?_
  refine jr_iload rfl rfl ?_
  refine jr_aload rfl rfl ?_
  refine jr_lc rfl ?_
  refine jr_ic rfl ?_
  refine jr_ic rfl ?_
  refine jr_cv3 (mc' := 0) (ms' := 0) rfl jm_MD_after_n jm_MD_after_f rfl rfl rfl rfl rfl rfl rfl (Nat.zero_le _) (Nat.zero_le _) ?_
  show jx_W (jm_MD_after, _, _, _, _, _, _) _ 0 0 0 [some _, some _, none, some _, some _] [] _
  refine jr_aload rfl rfl ?_
  refine jr_aload rfl rfl ?_
  refine jr_lload rfl rfl ?_
  refine jr_cv1 (mc' := 0) (ms' := 0) rfl jm_MD_isWord_n jm_MD_isWord_f rfl rfl rfl rfl rfl rfl rfl (Nat.zero_le _) (Nat.zero_le _) ?_
  refine eM_isWord (B := B) (sz := sz) (t := t + 1) m1 (i := 7) (by decide) jT_W7 ?_
  refine jr_cv1 (mc' := 0) (ms' := 0) rfl jm_MD_must_n jm_MD_must_f rfl rfl rfl rfl rfl rfl rfl (Nat.zero_le _) (Nat.zero_le _) ?_
  refine eM_must_y (B := B) (sz := sz) (t := t + 1) t1 m1 f1 (by rw [if_pos k1]; decide) (fun h2 g2 m2 => ?_)
  have t2 := jX_t_MG g2 t1
  have f2 : jh_I h2 11 0 4 = 0 := (g2.2.2.2 4 (by decide)).trans f1
  have b2 : jh_I h2 11 0 44 = nI β := (g2.2.2.2 44 (by decide)).trans b1
  refine jr_aload rfl rfl ?_
  refine jr_iload rfl rfl ?_
  refine jr_iload rfl rfl ?_
  refine jr_cv2 (mc' := 0) (ms' := 0) rfl jm_MD_numeral_n jm_MD_numeral_f rfl rfl rfl rfl rfl rfl rfl (Nat.zero_le _) (Nat.zero_le _) ?_
  refine eM_num_r (B := B) (sz := sz) (lo := 0) (hi := 31) (t := t + 2) t2 m2 f2 (by omega) (by omega) k2 r2 (fun h3 g3 => ?_)
  have e3 : ¬ jh_I h3 11 0 4 = 0 := by rw [g3.2.2.2.1]; exact (by decide)
  have m3 := jT_mc_ft g3 m2
  have b3 : jh_I h3 11 0 44 = nI β := (g3.2.2.1 44 (by decide) (by decide)).trans b2
  refine jr_iret rfl rfl (Nat.zero_le _) (Nat.zero_le _) ?_
  refine jr_iast (len := 12) rfl rfl rfl (by omega) ?_
  refine jr_aload rfl rfl ?_
  refine jr_getR rfl rfl rfl rfl (Or.inl rfl) ?_
  refine jr_iload rfl rfl ?_
  refine jr_aload rfl rfl ?_
  refine jr_lc rfl ?_
  refine jr_aload rfl rfl ?_
  refine jr_getR rfl rfl rfl rfl (Or.inl rfl) ?_
  refine jr_iload rfl rfl ?_
  refine jr_iald (len := 12) rfl rfl rfl (by omega) ?_
  rw [jg_Iuu]
  refine jr_ic rfl ?_
  refine jr_cv3 (mc' := 0) (ms' := 0) rfl jm_MD_after_n jm_MD_after_f rfl rfl rfl rfl rfl rfl rfl (Nat.zero_le _) (Nat.zero_le _) ?_
  show jx_W (jm_MD_after, _, _, _, _, _, _) _ 0 0 0 [some _, some _, none, some _, some _] [] _
  refine jr_aload rfl rfl ?_
  refine jr_aload rfl rfl ?_
  refine jr_lload rfl rfl ?_
  refine jr_cv1 (mc' := 0) (ms' := 0) rfl jm_MD_isWord_n jm_MD_isWord_f rfl rfl rfl rfl rfl rfl rfl (Nat.zero_le _) (Nat.zero_le _) ?_
  refine eM_isWord (B := B) (sz := sz) (t := t + 2) m3 (i := 8) (by decide) jT_W8 ?_
  refine jr_cv1 (mc' := 0) (ms' := 0) rfl jm_MD_must_n jm_MD_must_f rfl rfl rfl rfl rfl rfl rfl (Nat.zero_le _) (Nat.zero_le _) ?_
  refine eM_must_b e3 ?_
  refine jr_aload rfl rfl ?_
  refine jr_iload rfl rfl ?_
  refine jr_iload rfl rfl ?_
  refine jr_cv2 (mc' := 0) (ms' := 0) rfl jm_MD_numeral_n jm_MD_numeral_f rfl rfl rfl rfl rfl rfl rfl (Nat.zero_le _) (Nat.zero_le _) ?_
  refine eM_num_b (lo := 0) (hi := 31) e3 ?_
  refine jr_iret rfl rfl (Nat.zero_le _) (Nat.zero_le _) ?_
  refine jr_iast (len := 12) rfl rfl rfl (by omega) ?_
  refine jr_aload rfl rfl ?_
  refine jr_getR rfl rfl rfl rfl (Or.inl rfl) ?_
  refine jr_aload rfl rfl ?_
  refine jr_getI rfl rfl ?_
  refine jr_dup2 rfl ?_
  refine jr_iald (len := 2) rfl rfl b3 (by omega) ?_
  refine jr_ic rfl ?_
  refine jr_iadd rfl ?_
  rw [show jh_I (ju_I (ju_I (h3) 70 0 (upd (jh_I (h3) 70 0) ((6 * β + V 0 0)) (nI 0))) 71 0 (upd (jh_I (ju_I (h3) 70 0 (upd (jh_I (h3) 70 0) ((6 * β + V 0 0)) (nI 0))) 71 0) ((6 * β + V 0 0)) (nI 0))) 66 0 β = nI (V 0 0) from (congrFun ((g3.1 66 0 (by decide)).trans ((g2.1 66 0 (by decide)).trans (g1.1 66 0 (by decide)))) β).trans a1]
  rw [show nI (V 0 0) + 1 = nI (V 0 0 + 1) from jn_S _]
  refine jr_iast (len := 2) rfl rfl b3 (by omega) ?_
  refine jr_vret rfl rfl (Nat.zero_le _) (Nat.zero_le _) ?_
  exact k _ (jMF_I (a := 66) (w := 1) (jMF_I (a := 71) (w := 6) (jMF_I (a := 70) (w := 6) (jMF_ft (jMF_G (jMF_L (a := 90) (w := 6) (jMF_G (F) g1) (by decide) (by decide) (by omega) (by omega)) g2) g3) (by decide) (by decide) (by omega) (by omega)) (by decide) (by decide) (by omega) (by omega)) (by decide) (by decide) (by omega) (by omega)) g3.2.2.2.1 g3.2.2.2.2

set_option maxHeartbeats 800000 in
set_option maxRecDepth 100000 in
theorem eM_month_b5 {d : Nat} {h : jx_H} {Q : Option jx_V → jx_H → Prop} {h0 : jx_H} {B : Nat → Int32} {sz β t : Nat} {V : Nat → Nat → Nat} {W : Nat → Nat → List Nat} {D : Nat → Int32} (x : jML h B sz β t V W D) (F : jMF β h0 h) (hβ : β < 2) (hn : V 0 0 < 6) (hW : jnW (W 0) (V 0 0)) (k0 : jT_K B sz t = 3) (n0 : jnF (W 0) (jT_wd B sz (jT_p B sz t)) (V 0 0) 0 = none) (k1 : jT_K B sz (t + 1) = 107) (k2 : jT_K B sz (t + 2) = 2) (r2 : jT_v B sz (jT_p B sz (t + 2)) ≤ 31) (k3 : ¬ jT_K B sz (t + 3) = 108) (k : ∀ h', jMF β h0 h' → jh_I h' 11 0 4 = jX_kd (jT_K B sz (t + 3)) → jPl h' (jT_p B sz (t + 3)) → Q none h')  : jx_Ev jm_MD_readMonth (d + 8) 0 0 false 1 [jv_r 11 0] h Q := by
  show jx_W (jm_MD_readMonth, d + 8, 0, 0, false, 1, _) Q 0 0 0 [some (jv_r 11 0), none] [] _
  obtain ⟨⟨t0, m0, f0, b0, -, -, -, -⟩, ⟨⟨a1, a2⟩, -⟩, -⟩ := id x
  have xb := b0
  have hr : ∀ j, j < V 0 0 → jh_L h 90 0 (6 * β + j) = jT_key (W 0 j) := fun j hj => (a2 j hj).2.2
  refine jr_ic rfl ?_
  refine jr_aload rfl rfl ?_
  refine jr_getI rfl rfl ?_
  refine jr_imul rfl ?_
  refine jr_aload rfl rfl ?_
  refine jr_getR rfl rfl rfl rfl (Or.inl rfl) ?_
  refine jr_aload rfl rfl ?_
  refine jr_getI rfl rfl ?_
  refine jr_iald (len := 2) rfl rfl b0 (by omega) ?_
  refine jr_iadd rfl ?_
  rw [xb, a1, show (6 : Int32) * nI β + nI (V 0 0) = nI (6 * β + V 0 0) from jn_add (jn_mul rfl rfl) rfl]
  refine jr_ist1 rfl rfl ?_
  refine jr_aload rfl rfl ?_
  refine jr_getR rfl rfl rfl rfl (Or.inl rfl) ?_
  refine jr_iload rfl rfl ?_
  refine jr_aload rfl rfl ?_
  refine jr_aload rfl rfl ?_
  refine jr_aload rfl rfl ?_
  refine jr_getR rfl rfl rfl rfl (Or.inl rfl) ?_
  refine jr_ic rfl ?_
  refine jr_aload rfl rfl ?_
  refine jr_getI rfl rfl ?_
  refine jr_imul rfl ?_
  refine jr_aload rfl rfl ?_
  refine jr_getR rfl rfl rfl rfl (Or.inl rfl) ?_
  refine jr_aload rfl rfl ?_
  refine jr_getI rfl rfl ?_
  refine jr_iald (len := 2) rfl rfl b0 (by omega) ?_
  rw [xb, a1, show (6 : Int32) * nI β = nI (6 * β) from jn_mul rfl rfl]
  refine jr_cv3 (mc' := 0) (ms' := 0) rfl jm_MD_here_n jm_MD_here_f rfl rfl rfl rfl rfl rfl rfl (Nat.zero_le _) (Nat.zero_le _) ?_
  refine eM_here_m m0 hβ hW hr (by omega) ?_
  rw [if_pos k0, n0]
  refine jr_cv1 (mc' := 0) (ms' := 0) rfl jm_MD_fresh_n jm_MD_fresh_f rfl rfl rfl rfl rfl rfl rfl (Nat.zero_le _) (Nat.zero_le _) ?_
  refine eM_fresh_y (B := B) (sz := sz) (t := t) t0 m0 f0 k0 (fun h1 g1 m1 => ?_)
  have t1 := jX_t_MG g1 t0
  have f1 : jh_I h1 11 0 4 = 0 := (g1.2.2.2 4 (by decide)).trans f0
  have b1 : jh_I h1 11 0 44 = nI β := (g1.2.2.2 44 (by decide)).trans b0
  refine jr_last (len := 12) rfl rfl rfl (by omega) ?_
  refine jr_aload rfl rfl ?_
  refine jr_getR rfl rfl rfl rfl (Or.inl rfl) ?_
  refine jr_iload rfl rfl ?_
  refine jr_aload rfl rfl ?_
  refine jr_lc rfl ?_
  refine jr_ic rfl ?_
  refine jr_ic rfl ?_
  refine jr_cv3 (mc' := 0) (ms' := 0) rfl jm_MD_after_n jm_MD_after_f rfl rfl rfl rfl rfl rfl rfl (Nat.zero_le _) (Nat.zero_le _) ?_
  show jx_W (jm_MD_after, _, _, _, _, _, _) _ 0 0 0 [some _, some _, none, some _, some _] [] _
  refine jr_aload rfl rfl ?_
  refine jr_aload rfl rfl ?_
  refine jr_lload rfl rfl ?_
  refine jr_cv1 (mc' := 0) (ms' := 0) rfl jm_MD_isWord_n jm_MD_isWord_f rfl rfl rfl rfl rfl rfl rfl (Nat.zero_le _) (Nat.zero_le _) ?_
  refine eM_isWord (B := B) (sz := sz) (t := t + 1) m1 (i := 7) (by decide) jT_W7 ?_
  refine jr_cv1 (mc' := 0) (ms' := 0) rfl jm_MD_must_n jm_MD_must_f rfl rfl rfl rfl rfl rfl rfl (Nat.zero_le _) (Nat.zero_le _) ?_
  refine eM_must_y (B := B) (sz := sz) (t := t + 1) t1 m1 f1 (by rw [if_pos k1]; decide) (fun h2 g2 m2 => ?_)
  have t2 := jX_t_MG g2 t1
  have f2 : jh_I h2 11 0 4 = 0 := (g2.2.2.2 4 (by decide)).trans f1
  have b2 : jh_I h2 11 0 44 = nI β := (g2.2.2.2 44 (by decide)).trans b1
  refine jr_aload rfl rfl ?_
  refine jr_iload rfl rfl ?_
  refine jr_iload rfl rfl ?_
  refine jr_cv2 (mc' := 0) (ms' := 0) rfl jm_MD_numeral_n jm_MD_numeral_f rfl rfl rfl rfl rfl rfl rfl (Nat.zero_le _) (Nat.zero_le _) ?_
  refine eM_num_y (B := B) (sz := sz) (lo := 0) (hi := 31) (t := t + 2) t2 m2 f2 (by omega) (by omega) k2 (Nat.zero_le _) r2 (fun h3 g3 m3 => ?_)
  have t3 := jX_t_MG g3 t2
  have f3 : jh_I h3 11 0 4 = 0 := (g3.2.2.2 4 (by decide)).trans f2
  have b3 : jh_I h3 11 0 44 = nI β := (g3.2.2.2 44 (by decide)).trans b2
  refine jr_iret rfl rfl (Nat.zero_le _) (Nat.zero_le _) ?_
  refine jr_iast (len := 12) rfl rfl rfl (by omega) ?_
  refine jr_aload rfl rfl ?_
  refine jr_getR rfl rfl rfl rfl (Or.inl rfl) ?_
  refine jr_iload rfl rfl ?_
  refine jr_aload rfl rfl ?_
  refine jr_lc rfl ?_
  refine jr_aload rfl rfl ?_
  refine jr_getR rfl rfl rfl rfl (Or.inl rfl) ?_
  refine jr_iload rfl rfl ?_
  refine jr_iald (len := 12) rfl rfl rfl (by omega) ?_
  rw [jg_Iuu]
  refine jr_ic rfl ?_
  refine jr_cv3 (mc' := 0) (ms' := 0) rfl jm_MD_after_n jm_MD_after_f rfl rfl rfl rfl rfl rfl rfl (Nat.zero_le _) (Nat.zero_le _) ?_
  show jx_W (jm_MD_after, _, _, _, _, _, _) _ 0 0 0 [some _, some _, none, some _, some _] [] _
  refine jr_aload rfl rfl ?_
  refine jr_aload rfl rfl ?_
  refine jr_lload rfl rfl ?_
  refine jr_cv1 (mc' := 0) (ms' := 0) rfl jm_MD_isWord_n jm_MD_isWord_f rfl rfl rfl rfl rfl rfl rfl (Nat.zero_le _) (Nat.zero_le _) ?_
  refine eM_isWord (B := B) (sz := sz) (t := t + 3) m3 (i := 8) (by decide) jT_W8 ?_
  refine jr_cv1 (mc' := 0) (ms' := 0) rfl jm_MD_must_n jm_MD_must_f rfl rfl rfl rfl rfl rfl rfl (Nat.zero_le _) (Nat.zero_le _) ?_
  refine eM_must_n (B := B) (sz := sz) (t := t + 3) t3 m3 f3 (if_neg k3) (fun h4 g4 => ?_)
  have e4 : ¬ jh_I h4 11 0 4 = 0 := by rw [g4.2.2.2.1]; exact jX_kd_n _
  have m4 := jT_mc_ft g4 m3
  have b4 : jh_I h4 11 0 44 = nI β := (g4.2.2.1 44 (by decide) (by decide)).trans b3
  refine jr_aload rfl rfl ?_
  refine jr_iload rfl rfl ?_
  refine jr_iload rfl rfl ?_
  refine jr_cv2 (mc' := 0) (ms' := 0) rfl jm_MD_numeral_n jm_MD_numeral_f rfl rfl rfl rfl rfl rfl rfl (Nat.zero_le _) (Nat.zero_le _) ?_
  refine eM_num_b (lo := (jT_v B sz (jT_p B sz (t + 2)))) (hi := 31) e4 ?_
  refine jr_iret rfl rfl (Nat.zero_le _) (Nat.zero_le _) ?_
  refine jr_iast (len := 12) rfl rfl rfl (by omega) ?_
  refine jr_aload rfl rfl ?_
  refine jr_getR rfl rfl rfl rfl (Or.inl rfl) ?_
  refine jr_aload rfl rfl ?_
  refine jr_getI rfl rfl ?_
  refine jr_dup2 rfl ?_
  refine jr_iald (len := 2) rfl rfl b4 (by omega) ?_
  refine jr_ic rfl ?_
  refine jr_iadd rfl ?_
  rw [show jh_I (ju_I (h4) 71 0 (upd (jh_I (h4) 71 0) ((6 * β + V 0 0)) (nI (jT_v B sz (jT_p B sz (t + 2)))))) 66 0 β = nI (V 0 0) from (congrFun ((g4.1 66 0 (by decide)).trans ((g3.1 66 0 (by decide)).trans ((g2.1 66 0 (by decide)).trans (g1.1 66 0 (by decide))))) β).trans a1]
  rw [show nI (V 0 0) + 1 = nI (V 0 0 + 1) from jn_S _]
  refine jr_iast (len := 2) rfl rfl b4 (by omega) ?_
  refine jr_vret rfl rfl (Nat.zero_le _) (Nat.zero_le _) ?_
  exact k _ (jMF_I (a := 66) (w := 1) (jMF_I (a := 71) (w := 6) (jMF_ft (jMF_I (a := 70) (w := 6) (jMF_G (jMF_G (jMF_L (a := 90) (w := 6) (jMF_G (F) g1) (by decide) (by decide) (by omega) (by omega)) g2) g3) (by decide) (by decide) (by omega) (by omega)) g4) (by decide) (by decide) (by omega) (by omega)) (by decide) (by decide) (by omega) (by omega)) g4.2.2.2.1 g4.2.2.2.2

set_option maxHeartbeats 800000 in
set_option maxRecDepth 100000 in
theorem eM_month_b6 {d : Nat} {h : jx_H} {Q : Option jx_V → jx_H → Prop} {h0 : jx_H} {B : Nat → Int32} {sz β t : Nat} {V : Nat → Nat → Nat} {W : Nat → Nat → List Nat} {D : Nat → Int32} (x : jML h B sz β t V W D) (F : jMF β h0 h) (hβ : β < 2) (hn : V 0 0 < 6) (hW : jnW (W 0) (V 0 0)) (k0 : jT_K B sz t = 3) (n0 : jnF (W 0) (jT_wd B sz (jT_p B sz t)) (V 0 0) 0 = none) (k1 : jT_K B sz (t + 1) = 107) (k2 : jT_K B sz (t + 2) = 2) (r2 : jT_v B sz (jT_p B sz (t + 2)) ≤ 31) (k3 : jT_K B sz (t + 3) = 108) (k4 : ¬ jT_K B sz (t + 4) = 2) (k : ∀ h', jMF β h0 h' → jh_I h' 11 0 4 = jX_kd (jT_K B sz (t + 4)) → jPl h' (jT_p B sz (t + 4)) → Q none h')  : jx_Ev jm_MD_readMonth (d + 8) 0 0 false 1 [jv_r 11 0] h Q := by
  show jx_W (jm_MD_readMonth, d + 8, 0, 0, false, 1, _) Q 0 0 0 [some (jv_r 11 0), none] [] _
  obtain ⟨⟨t0, m0, f0, b0, -, -, -, -⟩, ⟨⟨a1, a2⟩, -⟩, -⟩ := id x
  have xb := b0
  have hr : ∀ j, j < V 0 0 → jh_L h 90 0 (6 * β + j) = jT_key (W 0 j) := fun j hj => (a2 j hj).2.2
  refine jr_ic rfl ?_
  refine jr_aload rfl rfl ?_
  refine jr_getI rfl rfl ?_
  refine jr_imul rfl ?_
  refine jr_aload rfl rfl ?_
  refine jr_getR rfl rfl rfl rfl (Or.inl rfl) ?_
  refine jr_aload rfl rfl ?_
  refine jr_getI rfl rfl ?_
  refine jr_iald (len := 2) rfl rfl b0 (by omega) ?_
  refine jr_iadd rfl ?_
  rw [xb, a1, show (6 : Int32) * nI β + nI (V 0 0) = nI (6 * β + V 0 0) from jn_add (jn_mul rfl rfl) rfl]
  refine jr_ist1 rfl rfl ?_
  refine jr_aload rfl rfl ?_
  refine jr_getR rfl rfl rfl rfl (Or.inl rfl) ?_
  refine jr_iload rfl rfl ?_
  refine jr_aload rfl rfl ?_
  refine jr_aload rfl rfl ?_
  refine jr_aload rfl rfl ?_
  refine jr_getR rfl rfl rfl rfl (Or.inl rfl) ?_
  refine jr_ic rfl ?_
  refine jr_aload rfl rfl ?_
  refine jr_getI rfl rfl ?_
  refine jr_imul rfl ?_
  refine jr_aload rfl rfl ?_
  refine jr_getR rfl rfl rfl rfl (Or.inl rfl) ?_
  refine jr_aload rfl rfl ?_
  refine jr_getI rfl rfl ?_
  refine jr_iald (len := 2) rfl rfl b0 (by omega) ?_
  rw [xb, a1, show (6 : Int32) * nI β = nI (6 * β) from jn_mul rfl rfl]
  refine jr_cv3 (mc' := 0) (ms' := 0) rfl jm_MD_here_n jm_MD_here_f rfl rfl rfl rfl rfl rfl rfl (Nat.zero_le _) (Nat.zero_le _) ?_
  refine eM_here_m m0 hβ hW hr (by omega) ?_
  rw [if_pos k0, n0]
  refine jr_cv1 (mc' := 0) (ms' := 0) rfl jm_MD_fresh_n jm_MD_fresh_f rfl rfl rfl rfl rfl rfl rfl (Nat.zero_le _) (Nat.zero_le _) ?_
  refine eM_fresh_y (B := B) (sz := sz) (t := t) t0 m0 f0 k0 (fun h1 g1 m1 => ?_)
  have t1 := jX_t_MG g1 t0
  have f1 : jh_I h1 11 0 4 = 0 := (g1.2.2.2 4 (by decide)).trans f0
  have b1 : jh_I h1 11 0 44 = nI β := (g1.2.2.2 44 (by decide)).trans b0
  refine jr_last (len := 12) rfl rfl rfl (by omega) ?_
  refine jr_aload rfl rfl ?_
  refine jr_getR rfl rfl rfl rfl (Or.inl rfl) ?_
  refine jr_iload rfl rfl ?_
  refine jr_aload rfl rfl ?_
  refine jr_lc rfl ?_
  refine jr_ic rfl ?_
  refine jr_ic rfl ?_
  refine jr_cv3 (mc' := 0) (ms' := 0) rfl jm_MD_after_n jm_MD_after_f rfl rfl rfl rfl rfl rfl rfl (Nat.zero_le _) (Nat.zero_le _) ?_
  show jx_W (jm_MD_after, _, _, _, _, _, _) _ 0 0 0 [some _, some _, none, some _, some _] [] _
  refine jr_aload rfl rfl ?_
  refine jr_aload rfl rfl ?_
  refine jr_lload rfl rfl ?_
  refine jr_cv1 (mc' := 0) (ms' := 0) rfl jm_MD_isWord_n jm_MD_isWord_f rfl rfl rfl rfl rfl rfl rfl (Nat.zero_le _) (Nat.zero_le _) ?_
  refine eM_isWord (B := B) (sz := sz) (t := t + 1) m1 (i := 7) (by decide) jT_W7 ?_
  refine jr_cv1 (mc' := 0) (ms' := 0) rfl jm_MD_must_n jm_MD_must_f rfl rfl rfl rfl rfl rfl rfl (Nat.zero_le _) (Nat.zero_le _) ?_
  refine eM_must_y (B := B) (sz := sz) (t := t + 1) t1 m1 f1 (by rw [if_pos k1]; decide) (fun h2 g2 m2 => ?_)
  have t2 := jX_t_MG g2 t1
  have f2 : jh_I h2 11 0 4 = 0 := (g2.2.2.2 4 (by decide)).trans f1
  have b2 : jh_I h2 11 0 44 = nI β := (g2.2.2.2 44 (by decide)).trans b1
  refine jr_aload rfl rfl ?_
  refine jr_iload rfl rfl ?_
  refine jr_iload rfl rfl ?_
  refine jr_cv2 (mc' := 0) (ms' := 0) rfl jm_MD_numeral_n jm_MD_numeral_f rfl rfl rfl rfl rfl rfl rfl (Nat.zero_le _) (Nat.zero_le _) ?_
  refine eM_num_y (B := B) (sz := sz) (lo := 0) (hi := 31) (t := t + 2) t2 m2 f2 (by omega) (by omega) k2 (Nat.zero_le _) r2 (fun h3 g3 m3 => ?_)
  have t3 := jX_t_MG g3 t2
  have f3 : jh_I h3 11 0 4 = 0 := (g3.2.2.2 4 (by decide)).trans f2
  have b3 : jh_I h3 11 0 44 = nI β := (g3.2.2.2 44 (by decide)).trans b2
  refine jr_iret rfl rfl (Nat.zero_le _) (Nat.zero_le _) ?_
  refine jr_iast (len := 12) rfl rfl rfl (by omega) ?_
  refine jr_aload rfl rfl ?_
  refine jr_getR rfl rfl rfl rfl (Or.inl rfl) ?_
  refine jr_iload rfl rfl ?_
  refine jr_aload rfl rfl ?_
  refine jr_lc rfl ?_
  refine jr_aload rfl rfl ?_
  refine jr_getR rfl rfl rfl rfl (Or.inl rfl) ?_
  refine jr_iload rfl rfl ?_
  refine jr_iald (len := 12) rfl rfl rfl (by omega) ?_
  rw [jg_Iuu]
  refine jr_ic rfl ?_
  refine jr_cv3 (mc' := 0) (ms' := 0) rfl jm_MD_after_n jm_MD_after_f rfl rfl rfl rfl rfl rfl rfl (Nat.zero_le _) (Nat.zero_le _) ?_
  show jx_W (jm_MD_after, _, _, _, _, _, _) _ 0 0 0 [some _, some _, none, some _, some _] [] _
  refine jr_aload rfl rfl ?_
  refine jr_aload rfl rfl ?_
  refine jr_lload rfl rfl ?_
  refine jr_cv1 (mc' := 0) (ms' := 0) rfl jm_MD_isWord_n jm_MD_isWord_f rfl rfl rfl rfl rfl rfl rfl (Nat.zero_le _) (Nat.zero_le _) ?_
  refine eM_isWord (B := B) (sz := sz) (t := t + 3) m3 (i := 8) (by decide) jT_W8 ?_
  refine jr_cv1 (mc' := 0) (ms' := 0) rfl jm_MD_must_n jm_MD_must_f rfl rfl rfl rfl rfl rfl rfl (Nat.zero_le _) (Nat.zero_le _) ?_
  refine eM_must_y (B := B) (sz := sz) (t := t + 3) t3 m3 f3 (by rw [if_pos k3]; decide) (fun h4 g4 m4 => ?_)
  have t4 := jX_t_MG g4 t3
  have f4 : jh_I h4 11 0 4 = 0 := (g4.2.2.2 4 (by decide)).trans f3
  have b4 : jh_I h4 11 0 44 = nI β := (g4.2.2.2 44 (by decide)).trans b3
  refine jr_aload rfl rfl ?_
  refine jr_iload rfl rfl ?_
  refine jr_iload rfl rfl ?_
  refine jr_cv2 (mc' := 0) (ms' := 0) rfl jm_MD_numeral_n jm_MD_numeral_f rfl rfl rfl rfl rfl rfl rfl (Nat.zero_le _) (Nat.zero_le _) ?_
  refine eM_num_n (B := B) (sz := sz) (lo := (jT_v B sz (jT_p B sz (t + 2)))) (hi := 31) (t := t + 4) t4 m4 f4 k4 (fun h5 g5 => ?_)
  have e5 : ¬ jh_I h5 11 0 4 = 0 := by rw [g5.2.2.2.1]; exact jX_kd_n _
  have m5 := jT_mc_ft g5 m4
  have b5 : jh_I h5 11 0 44 = nI β := (g5.2.2.1 44 (by decide) (by decide)).trans b4
  refine jr_iret rfl rfl (Nat.zero_le _) (Nat.zero_le _) ?_
  refine jr_iast (len := 12) rfl rfl rfl (by omega) ?_
  refine jr_aload rfl rfl ?_
  refine jr_getR rfl rfl rfl rfl (Or.inl rfl) ?_
  refine jr_aload rfl rfl ?_
  refine jr_getI rfl rfl ?_
  refine jr_dup2 rfl ?_
  refine jr_iald (len := 2) rfl rfl b5 (by omega) ?_
  refine jr_ic rfl ?_
  refine jr_iadd rfl ?_
  rw [show jh_I (ju_I (h5) 71 0 (upd (jh_I (h5) 71 0) ((6 * β + V 0 0)) (nI (jT_v B sz (jT_p B sz (t + 2)))))) 66 0 β = nI (V 0 0) from (congrFun ((g5.1 66 0 (by decide)).trans ((g4.1 66 0 (by decide)).trans ((g3.1 66 0 (by decide)).trans ((g2.1 66 0 (by decide)).trans (g1.1 66 0 (by decide)))))) β).trans a1]
  rw [show nI (V 0 0) + 1 = nI (V 0 0 + 1) from jn_S _]
  refine jr_iast (len := 2) rfl rfl b5 (by omega) ?_
  refine jr_vret rfl rfl (Nat.zero_le _) (Nat.zero_le _) ?_
  exact k _ (jMF_I (a := 66) (w := 1) (jMF_I (a := 71) (w := 6) (jMF_ft (jMF_G (jMF_I (a := 70) (w := 6) (jMF_G (jMF_G (jMF_L (a := 90) (w := 6) (jMF_G (F) g1) (by decide) (by decide) (by omega) (by omega)) g2) g3) (by decide) (by decide) (by omega) (by omega)) g4) g5) (by decide) (by decide) (by omega) (by omega)) (by decide) (by decide) (by omega) (by omega)) g5.2.2.2.1 g5.2.2.2.2

set_option maxHeartbeats 800000 in
set_option maxRecDepth 100000 in
theorem eM_month_b7 {d : Nat} {h : jx_H} {Q : Option jx_V → jx_H → Prop} {h0 : jx_H} {B : Nat → Int32} {sz β t : Nat} {V : Nat → Nat → Nat} {W : Nat → Nat → List Nat} {D : Nat → Int32} (x : jML h B sz β t V W D) (F : jMF β h0 h) (hβ : β < 2) (hn : V 0 0 < 6) (hW : jnW (W 0) (V 0 0)) (k0 : jT_K B sz t = 3) (n0 : jnF (W 0) (jT_wd B sz (jT_p B sz t)) (V 0 0) 0 = none) (k1 : jT_K B sz (t + 1) = 107) (k2 : jT_K B sz (t + 2) = 2) (r2 : jT_v B sz (jT_p B sz (t + 2)) ≤ 31) (k3 : jT_K B sz (t + 3) = 108) (k4 : jT_K B sz (t + 4) = 2) (r4 : jT_v B sz (jT_p B sz (t + 4)) < jT_v B sz (jT_p B sz (t + 2)) ∨ 31 < jT_v B sz (jT_p B sz (t + 4))) (k : ∀ h', jMF β h0 h' → jh_I h' 11 0 4 = 4 → jPl h' (jT_p B sz (t + 4)) → Q none h')  : jx_Ev jm_MD_readMonth (d + 8) 0 0 false 1 [jv_r 11 0] h Q := by
  show jx_W (jm_MD_readMonth, d + 8, 0, 0, false, 1, _) Q 0 0 0 [some (jv_r 11 0), none] [] _
  obtain ⟨⟨t0, m0, f0, b0, -, -, -, -⟩, ⟨⟨a1, a2⟩, -⟩, -⟩ := id x
  have xb := b0
  have hr : ∀ j, j < V 0 0 → jh_L h 90 0 (6 * β + j) = jT_key (W 0 j) := fun j hj => (a2 j hj).2.2
  refine jr_ic rfl ?_
  refine jr_aload rfl rfl ?_
  refine jr_getI rfl rfl ?_
  refine jr_imul rfl ?_
  refine jr_aload rfl rfl ?_
  refine jr_getR rfl rfl rfl rfl (Or.inl rfl) ?_
  refine jr_aload rfl rfl ?_
  refine jr_getI rfl rfl ?_
  refine jr_iald (len := 2) rfl rfl b0 (by omega) ?_
  refine jr_iadd rfl ?_
  rw [xb, a1, show (6 : Int32) * nI β + nI (V 0 0) = nI (6 * β + V 0 0) from jn_add (jn_mul rfl rfl) rfl]
  refine jr_ist1 rfl rfl ?_
  refine jr_aload rfl rfl ?_
  refine jr_getR rfl rfl rfl rfl (Or.inl rfl) ?_
  refine jr_iload rfl rfl ?_
  refine jr_aload rfl rfl ?_
  refine jr_aload rfl rfl ?_
  refine jr_aload rfl rfl ?_
  refine jr_getR rfl rfl rfl rfl (Or.inl rfl) ?_
  refine jr_ic rfl ?_
  refine jr_aload rfl rfl ?_
  refine jr_getI rfl rfl ?_
  refine jr_imul rfl ?_
  refine jr_aload rfl rfl ?_
  refine jr_getR rfl rfl rfl rfl (Or.inl rfl) ?_
  refine jr_aload rfl rfl ?_
  refine jr_getI rfl rfl ?_
  refine jr_iald (len := 2) rfl rfl b0 (by omega) ?_
  rw [xb, a1, show (6 : Int32) * nI β = nI (6 * β) from jn_mul rfl rfl]
  refine jr_cv3 (mc' := 0) (ms' := 0) rfl jm_MD_here_n jm_MD_here_f rfl rfl rfl rfl rfl rfl rfl (Nat.zero_le _) (Nat.zero_le _) ?_
  refine eM_here_m m0 hβ hW hr (by omega) ?_
  rw [if_pos k0, n0]
  refine jr_cv1 (mc' := 0) (ms' := 0) rfl jm_MD_fresh_n jm_MD_fresh_f rfl rfl rfl rfl rfl rfl rfl (Nat.zero_le _) (Nat.zero_le _) ?_
  refine eM_fresh_y (B := B) (sz := sz) (t := t) t0 m0 f0 k0 (fun h1 g1 m1 => ?_)
  have t1 := jX_t_MG g1 t0
  have f1 : jh_I h1 11 0 4 = 0 := (g1.2.2.2 4 (by decide)).trans f0
  have b1 : jh_I h1 11 0 44 = nI β := (g1.2.2.2 44 (by decide)).trans b0
  refine jr_last (len := 12) rfl rfl rfl (by omega) ?_
  refine jr_aload rfl rfl ?_
  refine jr_getR rfl rfl rfl rfl (Or.inl rfl) ?_
  refine jr_iload rfl rfl ?_
  refine jr_aload rfl rfl ?_
  refine jr_lc rfl ?_
  refine jr_ic rfl ?_
  refine jr_ic rfl ?_
  refine jr_cv3 (mc' := 0) (ms' := 0) rfl jm_MD_after_n jm_MD_after_f rfl rfl rfl rfl rfl rfl rfl (Nat.zero_le _) (Nat.zero_le _) ?_
  show jx_W (jm_MD_after, _, _, _, _, _, _) _ 0 0 0 [some _, some _, none, some _, some _] [] _
  refine jr_aload rfl rfl ?_
  refine jr_aload rfl rfl ?_
  refine jr_lload rfl rfl ?_
  refine jr_cv1 (mc' := 0) (ms' := 0) rfl jm_MD_isWord_n jm_MD_isWord_f rfl rfl rfl rfl rfl rfl rfl (Nat.zero_le _) (Nat.zero_le _) ?_
  refine eM_isWord (B := B) (sz := sz) (t := t + 1) m1 (i := 7) (by decide) jT_W7 ?_
  refine jr_cv1 (mc' := 0) (ms' := 0) rfl jm_MD_must_n jm_MD_must_f rfl rfl rfl rfl rfl rfl rfl (Nat.zero_le _) (Nat.zero_le _) ?_
  refine eM_must_y (B := B) (sz := sz) (t := t + 1) t1 m1 f1 (by rw [if_pos k1]; decide) (fun h2 g2 m2 => ?_)
  have t2 := jX_t_MG g2 t1
  have f2 : jh_I h2 11 0 4 = 0 := (g2.2.2.2 4 (by decide)).trans f1
  have b2 : jh_I h2 11 0 44 = nI β := (g2.2.2.2 44 (by decide)).trans b1
  refine jr_aload rfl rfl ?_
  refine jr_iload rfl rfl ?_
  refine jr_iload rfl rfl ?_
  refine jr_cv2 (mc' := 0) (ms' := 0) rfl jm_MD_numeral_n jm_MD_numeral_f rfl rfl rfl rfl rfl rfl rfl (Nat.zero_le _) (Nat.zero_le _) ?_
  refine eM_num_y (B := B) (sz := sz) (lo := 0) (hi := 31) (t := t + 2) t2 m2 f2 (by omega) (by omega) k2 (Nat.zero_le _) r2 (fun h3 g3 m3 => ?_)
  have t3 := jX_t_MG g3 t2
  have f3 : jh_I h3 11 0 4 = 0 := (g3.2.2.2 4 (by decide)).trans f2
  have b3 : jh_I h3 11 0 44 = nI β := (g3.2.2.2 44 (by decide)).trans b2
  refine jr_iret rfl rfl (Nat.zero_le _) (Nat.zero_le _) ?_
  refine jr_iast (len := 12) rfl rfl rfl (by omega) ?_
  refine jr_aload rfl rfl ?_
  refine jr_getR rfl rfl rfl rfl (Or.inl rfl) ?_
  refine jr_iload rfl rfl ?_
  refine jr_aload rfl rfl ?_
  refine jr_lc rfl ?_
  refine jr_aload rfl rfl ?_
  refine jr_getR rfl rfl rfl rfl (Or.inl rfl) ?_
  refine jr_iload rfl rfl ?_
  refine jr_iald (len := 12) rfl rfl rfl (by omega) ?_
  rw [jg_Iuu]
  refine jr_ic rfl ?_
  refine jr_cv3 (mc' := 0) (ms' := 0) rfl jm_MD_after_n jm_MD_after_f rfl rfl rfl rfl rfl rfl rfl (Nat.zero_le _) (Nat.zero_le _) ?_
  show jx_W (jm_MD_after, _, _, _, _, _, _) _ 0 0 0 [some _, some _, none, some _, some _] [] _
  refine jr_aload rfl rfl ?_
  refine jr_aload rfl rfl ?_
  refine jr_lload rfl rfl ?_
  refine jr_cv1 (mc' := 0) (ms' := 0) rfl jm_MD_isWord_n jm_MD_isWord_f rfl rfl rfl rfl rfl rfl rfl (Nat.zero_le _) (Nat.zero_le _) ?_
  refine eM_isWord (B := B) (sz := sz) (t := t + 3) m3 (i := 8) (by decide) jT_W8 ?_
  refine jr_cv1 (mc' := 0) (ms' := 0) rfl jm_MD_must_n jm_MD_must_f rfl rfl rfl rfl rfl rfl rfl (Nat.zero_le _) (Nat.zero_le _) ?_
  refine eM_must_y (B := B) (sz := sz) (t := t + 3) t3 m3 f3 (by rw [if_pos k3]; decide) (fun h4 g4 m4 => ?_)
  have t4 := jX_t_MG g4 t3
  have f4 : jh_I h4 11 0 4 = 0 := (g4.2.2.2 4 (by decide)).trans f3
  have b4 : jh_I h4 11 0 44 = nI β := (g4.2.2.2 44 (by decide)).trans b3
  refine jr_aload rfl rfl ?_
  refine jr_iload rfl rfl ?_
  refine jr_iload rfl rfl ?_
  refine jr_cv2 (mc' := 0) (ms' := 0) rfl jm_MD_numeral_n jm_MD_numeral_f rfl rfl rfl rfl rfl rfl rfl (Nat.zero_le _) (Nat.zero_le _) ?_
  refine eM_num_r (B := B) (sz := sz) (lo := (jT_v B sz (jT_p B sz (t + 2)))) (hi := 31) (t := t + 4) t4 m4 f4 (by omega) (by omega) k4 r4 (fun h5 g5 => ?_)
  have e5 : ¬ jh_I h5 11 0 4 = 0 := by rw [g5.2.2.2.1]; exact (by decide)
  have m5 := jT_mc_ft g5 m4
  have b5 : jh_I h5 11 0 44 = nI β := (g5.2.2.1 44 (by decide) (by decide)).trans b4
  refine jr_iret rfl rfl (Nat.zero_le _) (Nat.zero_le _) ?_
  refine jr_iast (len := 12) rfl rfl rfl (by omega) ?_
  refine jr_aload rfl rfl ?_
  refine jr_getR rfl rfl rfl rfl (Or.inl rfl) ?_
  refine jr_aload rfl rfl ?_
  refine jr_getI rfl rfl ?_
  refine jr_dup2 rfl ?_
  refine jr_iald (len := 2) rfl rfl b5 (by omega) ?_
  refine jr_ic rfl ?_
  refine jr_iadd rfl ?_
  rw [show jh_I (ju_I (h5) 71 0 (upd (jh_I (h5) 71 0) ((6 * β + V 0 0)) (nI (jT_v B sz (jT_p B sz (t + 2)))))) 66 0 β = nI (V 0 0) from (congrFun ((g5.1 66 0 (by decide)).trans ((g4.1 66 0 (by decide)).trans ((g3.1 66 0 (by decide)).trans ((g2.1 66 0 (by decide)).trans (g1.1 66 0 (by decide)))))) β).trans a1]
  rw [show nI (V 0 0) + 1 = nI (V 0 0 + 1) from jn_S _]
  refine jr_iast (len := 2) rfl rfl b5 (by omega) ?_
  refine jr_vret rfl rfl (Nat.zero_le _) (Nat.zero_le _) ?_
  exact k _ (jMF_I (a := 66) (w := 1) (jMF_I (a := 71) (w := 6) (jMF_ft (jMF_G (jMF_I (a := 70) (w := 6) (jMF_G (jMF_G (jMF_L (a := 90) (w := 6) (jMF_G (F) g1) (by decide) (by decide) (by omega) (by omega)) g2) g3) (by decide) (by decide) (by omega) (by omega)) g4) g5) (by decide) (by decide) (by omega) (by omega)) (by decide) (by decide) (by omega) (by omega)) g5.2.2.2.1 g5.2.2.2.2

