set_option maxHeartbeats 800000 in
set_option maxRecDepth 100000 in
theorem eM_due_b9 {d : Nat} {h : jx_H} {Q : Option jx_V → jx_H → Prop} {h0 : jx_H} {B : Nat → Int32} {sz β t : Nat} {a b : Nat} {V : Nat → Nat → Nat} {W : Nat → Nat → List Nat} {D : Nat → Int32} (x : jML h B sz β t V W D) (F : jMF β h0 h) (hβ : β < 2) (hn : V 0 2 < 12) (h5 : V 0 1 ≤ 5) (h6 : V 0 0 ≤ 6) (hW : jnW (W 2) (V 0 2)) (hWp : jnW (W 1) (V 0 1)) (hWm : jnW (W 0) (V 0 0)) (k0 : jT_K B sz t = 3) (n0 : jnF (W 2) (jT_wd B sz (jT_p B sz t)) (V 0 2) 0 = none) (k1 : jT_K B sz (t + 1) = 113) (k2 : jT_K B sz (t + 2) = 3) (j2 : jnF (W 1) (jT_wd B sz (jT_p B sz (t + 2))) (V 0 1) 0 = some a) (k3 : jT_K B sz (t + 3) = 108) (k4 : jT_K B sz (t + 4) = 3) (j4 : jnF (W 1) (jT_wd B sz (jT_p B sz (t + 4))) (V 0 1) 0 = some b) (i4 : ¬ b = a) (k5 : ¬ jT_K B sz (t + 5) = 114) (k : ∀ h', jMF β h0 h' → jh_I h' 11 0 4 = jX_kd (jT_K B sz (t + 5)) → jPl h' (jT_p B sz (t + 5)) → Q none h')  : jx_Ev jm_MD_readDue (d + 8) 0 0 false 1 [jv_r 11 0] h Q := by
  show jx_W (jm_MD_readDue, d + 8, 0, 0, false, 1, _) Q 0 0 0 [some (jv_r 11 0), none] [] _
  obtain ⟨⟨t0, m0, f0, b0, -, -, -, -⟩, ⟨⟨a1, a2⟩, ⟨p1, p2⟩, ⟨c1, c2⟩, -⟩, -⟩ := id x
  have xb := b0
  have hr : ∀ j, j < V 0 2 → jh_L h 92 0 (12 * β + j) = jT_key (W 2 j) := fun j hj => (c2 j hj).2
  have hj2 := (jnF_lt _ _ _ j2).2.1
  have hj4 := (jnF_lt _ _ _ j4).2.1
  refine jr_ic rfl ?_
  refine jr_aload rfl rfl ?_
  refine jr_getI rfl rfl ?_
  refine jr_imul rfl ?_
  refine jr_aload rfl rfl ?_
  refine jr_getR rfl rfl rfl rfl (Or.inl rfl) ?_
  refine jr_aload rfl rfl ?_
  refine jr_getI rfl rfl ?_
  refine jr_iald (len := 2) rfl rfl b0 (by omega) ?_
  refine jr_iadd rfl ?_
  rw [xb, c1, show (12 : Int32) * nI β + nI (V 0 2) = nI (12 * β + V 0 2) from jn_add (jn_mul rfl rfl) rfl]
  refine jr_ist1 rfl rfl ?_
  refine jr_aload rfl rfl ?_
  refine jr_getR rfl rfl rfl rfl (Or.inl rfl) ?_
  refine jr_iload rfl rfl ?_
  refine jr_aload rfl rfl ?_
  refine jr_aload rfl rfl ?_
  refine jr_aload rfl rfl ?_
  refine jr_getR rfl rfl rfl rfl (Or.inl rfl) ?_
  refine jr_ic rfl ?_
  refine jr_aload rfl rfl ?_
  refine jr_getI rfl rfl ?_
  refine jr_imul rfl ?_
  refine jr_aload rfl rfl ?_
  refine jr_getR rfl rfl rfl rfl (Or.inl rfl) ?_
  refine jr_aload rfl rfl ?_
  refine jr_getI rfl rfl ?_
  refine jr_iald (len := 2) rfl rfl b0 (by omega) ?_
  rw [xb, c1, show (12 : Int32) * nI β = nI (12 * β) from jn_mul rfl rfl]
  refine jr_cv3 (mc' := 0) (ms' := 0) rfl jm_MD_here_n jm_MD_here_f rfl rfl rfl rfl rfl rfl rfl (Nat.zero_le _) (Nat.zero_le _) ?_
  refine eM_here_d m0 hβ hW hr (by omega) ?_
  rw [if_pos k0, n0]
  refine jr_cv1 (mc' := 0) (ms' := 0) rfl jm_MD_fresh_n jm_MD_fresh_f rfl rfl rfl rfl rfl rfl rfl (Nat.zero_le _) (Nat.zero_le _) ?_
  refine eM_fresh_y (B := B) (sz := sz) (t := t) t0 m0 f0 k0 (fun h1 g1 m1 => ?_)
  have t1 := jX_t_MG g1 t0
  have f1 : jh_I h1 11 0 4 = 0 := (g1.2.2.2 4 (by decide)).trans f0
  have b1 : jh_I h1 11 0 44 = nI β := (g1.2.2.2 44 (by decide)).trans b0
  refine jr_last (len := 24) rfl rfl rfl (by omega) ?_
  refine jr_aload rfl rfl ?_
  refine jr_aload rfl rfl ?_
  refine jr_lc rfl ?_
  refine jr_cv1 (mc' := 0) (ms' := 0) rfl jm_MD_isWord_n jm_MD_isWord_f rfl rfl rfl rfl rfl rfl rfl (Nat.zero_le _) (Nat.zero_le _) ?_
  refine eM_isWord (B := B) (sz := sz) (t := t + 1) m1 (i := 13) (by decide) jT_W13 ?_
  refine jr_cv1 (mc' := 0) (ms' := 0) rfl jm_MD_must_n jm_MD_must_f rfl rfl rfl rfl rfl rfl rfl (Nat.zero_le _) (Nat.zero_le _) ?_
  refine eM_must_y (B := B) (sz := sz) (t := t + 1) t1 m1 f1 (by rw [if_pos k1]; decide) (fun h2 g2 m2 => ?_)
  have t2 := jX_t_MG g2 t1
  have f2 : jh_I h2 11 0 4 = 0 := (g2.2.2.2 4 (by decide)).trans f1
  have b2 : jh_I h2 11 0 44 = nI β := (g2.2.2.2 44 (by decide)).trans b1
  refine jr_aload rfl rfl ?_
  refine jr_getR rfl rfl rfl rfl (Or.inl rfl) ?_
  refine jr_iload rfl rfl ?_
  refine jr_aload rfl rfl ?_
  refine jr_aload rfl rfl ?_
  refine jr_cv0 (mc' := 0) (ms' := 0) rfl jm_MD_personHere_n jm_MD_personHere_f rfl rfl rfl rfl rfl rfl rfl (Nat.zero_le _) (Nat.zero_le _) ?_
  show jx_W (jm_MD_personHere, _, _, _, _, _, _) _ 0 0 0 [some _] [] _
  refine jr_aload rfl rfl ?_
  refine jr_aload rfl rfl ?_
  refine jr_getR rfl rfl rfl rfl (Or.inl rfl) ?_
  refine jr_ic rfl ?_
  refine jr_aload rfl rfl ?_
  refine jr_getI rfl rfl ?_
  refine jr_imul rfl ?_
  refine jr_aload rfl rfl ?_
  refine jr_getR rfl rfl rfl rfl (Or.inl rfl) ?_
  refine jr_aload rfl rfl ?_
  refine jr_getI rfl rfl ?_
  refine jr_iald (len := 2) rfl rfl (by first | exact b4 | exact b2) (by omega) ?_
  rw [show jh_I (h2) 11 0 44 = nI β from b2, show jh_I (h2) 67 0 β = nI (V 0 1) from (congrFun ((g2.1 67 0 (by decide)).trans (g1.1 67 0 (by decide))) β).trans p1, show (5 : Int32) * nI β = nI (5 * β) from jn_mul rfl rfl]
  refine jr_cv3 (mc' := 0) (ms' := 0) rfl jm_MD_here_n jm_MD_here_f rfl rfl rfl rfl rfl rfl rfl (Nat.zero_le _) (Nat.zero_le _) ?_
  refine eM_here_p (B := B) (sz := sz) (t := t + 2) m2 hβ hWp (fun j hj => (congrFun ((g2.2.1 91 0 (by decide)).trans (g1.2.1 91 0 (by decide))) _).trans ((p2 j hj).2)) (by omega) ?_
  refine jr_iret rfl rfl (Nat.zero_le _) (Nat.zero_le _) ?_
  rw [if_pos k2, j2]
  refine jr_cv1 (mc' := 0) (ms' := 0) rfl jm_MD_told_n jm_MD_told_f rfl rfl rfl rfl rfl rfl rfl (Nat.zero_le _) (Nat.zero_le _) ?_
  refine eM_told_y (j := a) (B := B) (sz := sz) (t := t + 2) t2 m2 f2 k2 (by omega) ?_
  refine jr_iast (len := 24) rfl rfl rfl (by omega) ?_
  refine jr_aload rfl rfl ?_
  refine jr_cv0 (mc' := 0) (ms' := 0) rfl jm_MD_isGood_n jm_MD_isGood_f rfl rfl rfl rfl rfl rfl rfl (Nat.zero_le _) (Nat.zero_le _) ?_
  show jx_W (jm_MD_isGood, _, _, _, _, _, _) _ 0 0 0 [some _] [] _
  refine jr_aload rfl rfl ?_
  refine jr_getI rfl rfl ?_
  refine jr_if_ne rfl (fun z => absurd f2 z) (fun _ => ?_)
  refine jr_ic rfl ?_
  refine jr_goto rfl ?_
  refine jr_zret rfl rfl rfl (Nat.zero_le _) (Nat.zero_le _) ?_
  refine jr_if_eq rfl (fun z => absurd z (by decide)) (fun _ => ?_)
  refine jr_aload rfl rfl ?_
  refine jr_cv0 (mc' := 0) (ms' := 0) rfl jm_MD_goOn_n jm_MD_goOn_f rfl rfl rfl rfl rfl rfl rfl (Nat.zero_le _) (Nat.zero_le _) ?_
  refine eM_goOn (B := B) (sz := sz) (t := t + 3) t2.1 t2.2.1 t2.2.2.1 m2.2.1 (fun h3 g3 m3 => ?_)
  have t3 := jX_t_MG g3 t2
  have f3 : jh_I h3 11 0 4 = 0 := (g3.2.2.2 4 (by decide)).trans f2
  have b3 : jh_I h3 11 0 44 = nI β := (g3.2.2.2 44 (by decide)).trans b2
  refine jr_aload rfl rfl ?_
  refine jr_aload rfl rfl ?_
  refine jr_lc rfl ?_
  refine jr_cv1 (mc' := 0) (ms' := 0) rfl jm_MD_isWord_n jm_MD_isWord_f rfl rfl rfl rfl rfl rfl rfl (Nat.zero_le _) (Nat.zero_le _) ?_
  refine eM_isWord (B := B) (sz := sz) (t := t + 3) m3 (i := 8) (by decide) jT_W8 ?_
  refine jr_cv1 (mc' := 0) (ms' := 0) rfl jm_MD_must_n jm_MD_must_f rfl rfl rfl rfl rfl rfl rfl (Nat.zero_le _) (Nat.zero_le _) ?_
  refine eM_must_y (B := B) (sz := sz) (t := t + 3) t3 m3 f3 (by rw [if_pos k3]; decide) (fun h4 g4 m4 => ?_)
  have t4 := jX_t_MG g4 t3
  have f4 : jh_I h4 11 0 4 = 0 := (g4.2.2.2 4 (by decide)).trans f3
  have b4 : jh_I h4 11 0 44 = nI β := (g4.2.2.2 44 (by decide)).trans b3
  refine jr_aload rfl rfl ?_
  refine jr_getR rfl rfl rfl rfl (Or.inl rfl) ?_
  refine jr_iload rfl rfl ?_
  refine jr_aload rfl rfl ?_
  refine jr_aload rfl rfl ?_
  refine jr_cv0 (mc' := 0) (ms' := 0) rfl jm_MD_personHere_n jm_MD_personHere_f rfl rfl rfl rfl rfl rfl rfl (Nat.zero_le _) (Nat.zero_le _) ?_
  show jx_W (jm_MD_personHere, _, _, _, _, _, _) _ 0 0 0 [some _] [] _
  refine jr_aload rfl rfl ?_
  refine jr_aload rfl rfl ?_
  refine jr_getR rfl rfl rfl rfl (Or.inl rfl) ?_
  refine jr_ic rfl ?_
  refine jr_aload rfl rfl ?_
  refine jr_getI rfl rfl ?_
  refine jr_imul rfl ?_
  refine jr_aload rfl rfl ?_
  refine jr_getR rfl rfl rfl rfl (Or.inl rfl) ?_
  refine jr_aload rfl rfl ?_
  refine jr_getI rfl rfl ?_
  refine jr_iald (len := 2) rfl rfl (by first | exact b4 | exact b2) (by omega) ?_
  rw [show jh_I (h4) 11 0 44 = nI β from b4, show jh_I (h4) 67 0 β = nI (V 0 1) from (congrFun ((g4.1 67 0 (by decide)).trans ((g3.1 67 0 (by decide)).trans ((g2.1 67 0 (by decide)).trans (g1.1 67 0 (by decide))))) β).trans p1, show (5 : Int32) * nI β = nI (5 * β) from jn_mul rfl rfl]
  refine jr_cv3 (mc' := 0) (ms' := 0) rfl jm_MD_here_n jm_MD_here_f rfl rfl rfl rfl rfl rfl rfl (Nat.zero_le _) (Nat.zero_le _) ?_
  refine eM_here_p (B := B) (sz := sz) (t := t + 4) m4 hβ hWp (fun j hj => (congrFun ((g4.2.1 91 0 (by decide)).trans ((g3.2.1 91 0 (by decide)).trans ((g2.2.1 91 0 (by decide)).trans (g1.2.1 91 0 (by decide))))) _).trans ((p2 j hj).2)) (by omega) ?_
  refine jr_iret rfl rfl (Nat.zero_le _) (Nat.zero_le _) ?_
  rw [if_pos k4, j4]
  refine jr_cv1 (mc' := 0) (ms' := 0) rfl jm_MD_told_n jm_MD_told_f rfl rfl rfl rfl rfl rfl rfl (Nat.zero_le _) (Nat.zero_le _) ?_
  refine eM_told_y (j := b) (B := B) (sz := sz) (t := t + 4) t4 m4 f4 k4 (by omega) ?_
  refine jr_iast (len := 24) rfl rfl rfl (by omega) ?_
  refine jr_aload rfl rfl ?_
  refine jr_cv0 (mc' := 0) (ms' := 0) rfl jm_MD_isGood_n jm_MD_isGood_f rfl rfl rfl rfl rfl rfl rfl (Nat.zero_le _) (Nat.zero_le _) ?_
  show jx_W (jm_MD_isGood, _, _, _, _, _, _) _ 0 0 0 [some _] [] _
  refine jr_aload rfl rfl ?_
  refine jr_getI rfl rfl ?_
  refine jr_if_ne rfl (fun z => absurd f4 z) (fun _ => ?_)
  refine jr_ic rfl ?_
  refine jr_goto rfl ?_
  refine jr_zret rfl rfl rfl (Nat.zero_le _) (Nat.zero_le _) ?_
  refine jr_if_eq rfl (fun z => absurd z (by decide)) (fun _ => ?_)
  refine jr_aload rfl rfl ?_
  refine jr_getR rfl rfl rfl rfl (Or.inl rfl) ?_
  refine jr_iload rfl rfl ?_
  refine jr_iald (len := 24) rfl rfl rfl (by omega) ?_
  rw [jg_Iuu]
  refine jr_aload rfl rfl ?_
  refine jr_getR rfl rfl rfl rfl (Or.inl rfl) ?_
  refine jr_iload rfl rfl ?_
  refine jr_iald (len := 24) rfl rfl rfl (by omega) ?_
  rw [show jh_I (ju_I (h4) 74 0 (upd (jh_I (h4) 74 0) ((12 * β + V 0 2)) (nI b))) 73 0 (12 * β + V 0 2) = nI a from (congrFun ((g4.1 73 0 (by decide)).trans ((g3.1 73 0 (by decide)).trans (congrArg (fun F => upd F ((12 * β + V 0 2)) (nI a)) ((g2.1 73 0 (by decide)).trans (g1.1 73 0 (by decide)))))) (12 * β + V 0 2)).trans (jg_us _ _ _)]
  refine jr_icmp_ne rfl (fun _ => ?_) (fun z => absurd z (fun y => i4 (jn_eq (show nI b = nI a from y) (by omega) (by omega))))
  refine jr_aload rfl rfl ?_
  refine jr_cv0 (mc' := 0) (ms' := 0) rfl jm_MD_isGood_n jm_MD_isGood_f rfl rfl rfl rfl rfl rfl rfl (Nat.zero_le _) (Nat.zero_le _) ?_
  show jx_W (jm_MD_isGood, _, _, _, _, _, _) _ 0 0 0 [some _] [] _
  refine jr_aload rfl rfl ?_
  refine jr_getI rfl rfl ?_
  refine jr_if_ne rfl (fun z => absurd f4 z) (fun _ => ?_)
  refine jr_ic rfl ?_
  refine jr_goto rfl ?_
  refine jr_zret rfl rfl rfl (Nat.zero_le _) (Nat.zero_le _) ?_
  refine jr_if_eq rfl (fun z => absurd z (by decide)) (fun _ => ?_)
  refine jr_aload rfl rfl ?_
  refine jr_cv0 (mc' := 0) (ms' := 0) rfl jm_MD_goOn_n jm_MD_goOn_f rfl rfl rfl rfl rfl rfl rfl (Nat.zero_le _) (Nat.zero_le _) ?_
  refine eM_goOn (B := B) (sz := sz) (t := t + 5) t4.1 t4.2.1 t4.2.2.1 m4.2.1 (fun h5 g5 m5 => ?_)
  have t5 := jX_t_MG g5 t4
  have f5 : jh_I h5 11 0 4 = 0 := (g5.2.2.2 4 (by decide)).trans f4
  have b5 : jh_I h5 11 0 44 = nI β := (g5.2.2.2 44 (by decide)).trans b4
  refine jr_aload rfl rfl ?_
  refine jr_getR rfl rfl rfl rfl (Or.inl rfl) ?_
  refine jr_iload rfl rfl ?_
  refine jr_aload rfl rfl ?_
  refine jr_lc rfl ?_
  refine jr_ic rfl ?_
  refine jr_ic rfl ?_
  refine jr_cv3 (mc' := 0) (ms' := 0) rfl jm_MD_after_n jm_MD_after_f rfl rfl rfl rfl rfl rfl rfl (Nat.zero_le _) (Nat.zero_le _) ?_
  show jx_W (jm_MD_after, _, _, _, _, _, _) _ 0 0 0 [some _, some _, none, some _, some _] [] _
  refine jr_aload rfl rfl ?_
  refine jr_aload rfl rfl ?_
  refine jr_lload rfl rfl ?_
  refine jr_cv1 (mc' := 0) (ms' := 0) rfl jm_MD_isWord_n jm_MD_isWord_f rfl rfl rfl rfl rfl rfl rfl (Nat.zero_le _) (Nat.zero_le _) ?_
  refine eM_isWord (B := B) (sz := sz) (t := t + 5) m5 (i := 14) (by decide) jT_W14 ?_
  refine jr_cv1 (mc' := 0) (ms' := 0) rfl jm_MD_must_n jm_MD_must_f rfl rfl rfl rfl rfl rfl rfl (Nat.zero_le _) (Nat.zero_le _) ?_
  refine eM_must_n (B := B) (sz := sz) (t := t + 5) t5 m5 f5 (if_neg k5) (fun h6 g6 => ?_)
  have e6 : ¬ jh_I h6 11 0 4 = 0 := by rw [g6.2.2.2.1]; exact jX_kd_n _
  have m6 := jT_mc_ft g6 m5
  have b6 : jh_I h6 11 0 44 = nI β := (g6.2.2.1 44 (by decide) (by decide)).trans b5
  refine jr_aload rfl rfl ?_
  refine jr_iload rfl rfl ?_
  refine jr_iload rfl rfl ?_
  refine jr_cv2 (mc' := 0) (ms' := 0) rfl jm_MD_numeral_n jm_MD_numeral_f rfl rfl rfl rfl rfl rfl rfl (Nat.zero_le _) (Nat.zero_le _) ?_
  refine eM_num_b (lo := 1) (hi := 99) e6 ?_
  refine jr_iret rfl rfl (Nat.zero_le _) (Nat.zero_le _) ?_
  refine jr_iast (len := 24) rfl rfl rfl (by omega) ?_
  refine jr_aload rfl rfl ?_
  refine jr_getR rfl rfl rfl rfl (Or.inl rfl) ?_
  refine jr_iload rfl rfl ?_
  refine jr_aload rfl rfl ?_
  refine jr_lc rfl ?_
  refine jr_ic rfl ?_
  refine jr_ic rfl ?_
  refine jr_cv3 (mc' := 0) (ms' := 0) rfl jm_MD_after_n jm_MD_after_f rfl rfl rfl rfl rfl rfl rfl (Nat.zero_le _) (Nat.zero_le _) ?_
  show jx_W (jm_MD_after, _, _, _, _, _, _) _ 0 0 0 [some _, some _, none, some _, some _] [] _
  refine jr_aload rfl rfl ?_
  refine jr_aload rfl rfl ?_
  refine jr_lload rfl rfl ?_
  refine jr_cv1 (mc' := 0) (ms' := 0) rfl jm_MD_isWord_n jm_MD_isWord_f rfl rfl rfl rfl rfl rfl rfl (Nat.zero_le _) (Nat.zero_le _) ?_
  refine eM_isWord (B := B) (sz := sz) (t := t + 5) m6 (i := 15) (by decide) jT_W15 ?_
  refine jr_cv1 (mc' := 0) (ms' := 0) rfl jm_MD_must_n jm_MD_must_f rfl rfl rfl rfl rfl rfl rfl (Nat.zero_le _) (Nat.zero_le _) ?_
  refine eM_must_b e6 ?_
  refine jr_aload rfl rfl ?_
  refine jr_iload rfl rfl ?_
  refine jr_iload rfl rfl ?_
  refine jr_cv2 (mc' := 0) (ms' := 0) rfl jm_MD_numeral_n jm_MD_numeral_f rfl rfl rfl rfl rfl rfl rfl (Nat.zero_le _) (Nat.zero_le _) ?_
  refine eM_num_b (lo := 1) (hi := 31) e6 ?_
  refine jr_iret rfl rfl (Nat.zero_le _) (Nat.zero_le _) ?_
  refine jr_iast (len := 24) rfl rfl rfl (by omega) ?_
  refine jr_aload rfl rfl ?_
  refine jr_aload rfl rfl ?_
  refine jr_lc rfl ?_
  refine jr_cv1 (mc' := 0) (ms' := 0) rfl jm_MD_isWord_n jm_MD_isWord_f rfl rfl rfl rfl rfl rfl rfl (Nat.zero_le _) (Nat.zero_le _) ?_
  refine eM_isWord (B := B) (sz := sz) (t := t + 5) m6 (i := 16) (by decide) jT_W16 ?_
  refine jr_cv1 (mc' := 0) (ms' := 0) rfl jm_MD_must_n jm_MD_must_f rfl rfl rfl rfl rfl rfl rfl (Nat.zero_le _) (Nat.zero_le _) ?_
  refine eM_must_b e6 ?_
  refine jr_aload rfl rfl ?_
  refine jr_getR rfl rfl rfl rfl (Or.inl rfl) ?_
  refine jr_iload rfl rfl ?_
  refine jr_aload rfl rfl ?_
  refine jr_aload rfl rfl ?_
  refine jr_aload rfl rfl ?_
  refine jr_getR rfl rfl rfl rfl (Or.inl rfl) ?_
  refine jr_ic rfl ?_
  refine jr_aload rfl rfl ?_
  refine jr_getI rfl rfl ?_
  refine jr_imul rfl ?_
  refine jr_aload rfl rfl ?_
  refine jr_getR rfl rfl rfl rfl (Or.inl rfl) ?_
  refine jr_aload rfl rfl ?_
  refine jr_getI rfl rfl ?_
  refine jr_iald (len := 2) rfl rfl b6 (by omega) ?_
  rw [show jh_I (ju_I (ju_I (h6) 75 0 (upd (jh_I (h6) 75 0) ((12 * β + V 0 2)) (nI 1))) 76 0 (upd (jh_I (ju_I (h6) 75 0 (upd (jh_I (h6) 75 0) ((12 * β + V 0 2)) (nI 1))) 76 0) ((12 * β + V 0 2)) (nI 1))) 11 0 44 = nI β from b6, show jh_I (ju_I (ju_I (h6) 75 0 (upd (jh_I (h6) 75 0) ((12 * β + V 0 2)) (nI 1))) 76 0 (upd (jh_I (ju_I (h6) 75 0 (upd (jh_I (h6) 75 0) ((12 * β + V 0 2)) (nI 1))) 76 0) ((12 * β + V 0 2)) (nI 1))) 66 0 β = nI (V 0 0) from (congrFun ((g6.1 66 0 (by decide)).trans ((g5.1 66 0 (by decide)).trans ((g4.1 66 0 (by decide)).trans ((g3.1 66 0 (by decide)).trans ((g2.1 66 0 (by decide)).trans (g1.1 66 0 (by decide))))))) β).trans a1, show (6 : Int32) * nI β = nI (6 * β) from jn_mul rfl rfl]
  refine jr_cv3 (mc' := 0) (ms' := 0) rfl jm_MD_here_n jm_MD_here_f rfl rfl rfl rfl rfl rfl rfl (Nat.zero_le _) (Nat.zero_le _) ?_
  refine eM_here_m (B := B) (sz := sz) (t := t + 5) m6 hβ hWm (fun j hj => (congrFun ((congrFun (congrFun (congrArg (·.1) g6.2.1) 90) 0).trans ((g5.2.1 90 0 (by decide)).trans ((g4.2.1 90 0 (by decide)).trans ((g3.2.1 90 0 (by decide)).trans ((g2.2.1 90 0 (by decide)).trans (g1.2.1 90 0 (by decide))))))) _).trans ((a2 j hj).2.2)) (by omega) ?_
  refine jr_cv1 (mc' := 0) (ms' := 0) rfl jm_MD_told_n jm_MD_told_f rfl rfl rfl rfl rfl rfl rfl (Nat.zero_le _) (Nat.zero_le _) ?_
  refine eM_told_b e6 ?_
  refine jr_iast (len := 24) rfl rfl rfl (by omega) ?_
  refine jr_aload rfl rfl ?_
  refine jr_cv0 (mc' := 0) (ms' := 0) rfl jm_MD_isGood_n jm_MD_isGood_f rfl rfl rfl rfl rfl rfl rfl (Nat.zero_le _) (Nat.zero_le _) ?_
  show jx_W (jm_MD_isGood, _, _, _, _, _, _) _ 0 0 0 [some _] [] _
  refine jr_aload rfl rfl ?_
  refine jr_getI rfl rfl ?_
  refine jr_if_ne rfl (fun _ => ?_) (fun z => absurd z e6)
  refine jr_ic rfl ?_
  refine jr_zret rfl rfl rfl (Nat.zero_le _) (Nat.zero_le _) ?_
  refine jr_if_eq rfl (fun _ => ?_) (fun z => absurd (by decide) z)
  refine jr_aload rfl rfl ?_
  refine jr_getR rfl rfl rfl rfl (Or.inl rfl) ?_
  refine jr_iload rfl rfl ?_
  refine jr_aload rfl rfl ?_
  refine jr_lc rfl ?_
  refine jr_cv1 (mc' := 0) (ms' := 0) rfl jm_MD_has_n jm_MD_has_f rfl rfl rfl rfl rfl rfl rfl (Nat.zero_le _) (Nat.zero_le _) ?_
  refine eM_has_b e6 ?_
  refine jr_zast (len := 24) rfl rfl rfl (by omega) ?_
  refine jr_aload rfl rfl ?_
  refine jr_getR rfl rfl rfl rfl (Or.inl rfl) ?_
  refine jr_aload rfl rfl ?_
  refine jr_getI rfl rfl ?_
  refine jr_dup2 rfl ?_
  refine jr_iald (len := 2) rfl rfl b6 (by omega) ?_
  refine jr_ic rfl ?_
  refine jr_iadd rfl ?_
  rw [show jh_I (ju_I (ju_I (ju_I (ju_I (h6) 75 0 (upd (jh_I (h6) 75 0) ((12 * β + V 0 2)) (nI 1))) 76 0 (upd (jh_I (ju_I (h6) 75 0 (upd (jh_I (h6) 75 0) ((12 * β + V 0 2)) (nI 1))) 76 0) ((12 * β + V 0 2)) (nI 1))) 77 0 (upd (jh_I (ju_I (ju_I (h6) 75 0 (upd (jh_I (h6) 75 0) ((12 * β + V 0 2)) (nI 1))) 76 0 (upd (jh_I (ju_I (h6) 75 0 (upd (jh_I (h6) 75 0) ((12 * β + V 0 2)) (nI 1))) 76 0) ((12 * β + V 0 2)) (nI 1))) 77 0) ((12 * β + V 0 2)) (0))) 84 0 (upd (jh_I (ju_I (ju_I (ju_I (h6) 75 0 (upd (jh_I (h6) 75 0) ((12 * β + V 0 2)) (nI 1))) 76 0 (upd (jh_I (ju_I (h6) 75 0 (upd (jh_I (h6) 75 0) ((12 * β + V 0 2)) (nI 1))) 76 0) ((12 * β + V 0 2)) (nI 1))) 77 0 (upd (jh_I (ju_I (ju_I (h6) 75 0 (upd (jh_I (h6) 75 0) ((12 * β + V 0 2)) (nI 1))) 76 0 (upd (jh_I (ju_I (h6) 75 0 (upd (jh_I (h6) 75 0) ((12 * β + V 0 2)) (nI 1))) 76 0) ((12 * β + V 0 2)) (nI 1))) 77 0) ((12 * β + V 0 2)) (0))) 84 0) ((12 * β + V 0 2)) (0 &&& 1))) 68 0 β = nI (V 0 2) from (congrFun ((g6.1 68 0 (by decide)).trans ((g5.1 68 0 (by decide)).trans ((g4.1 68 0 (by decide)).trans ((g3.1 68 0 (by decide)).trans ((g2.1 68 0 (by decide)).trans (g1.1 68 0 (by decide))))))) β).trans c1, show nI (V 0 2) + 1 = nI (V 0 2 + 1) from jn_S _]
  refine jr_iast (len := 2) rfl rfl b6 (by omega) ?_
  refine jr_vret rfl rfl (Nat.zero_le _) (Nat.zero_le _) ?_
  exact k _ (jMF_I (a := 68) (w := 1) (jMF_I (a := 84) (w := 12) (jMF_I (a := 77) (w := 12) (jMF_I (a := 76) (w := 12) (jMF_I (a := 75) (w := 12) (jMF_ft (jMF_G (jMF_I (a := 74) (w := 12) (jMF_G (jMF_G (jMF_I (a := 73) (w := 12) (jMF_G (jMF_L (a := 92) (w := 12) (jMF_G (F) g1) (by decide) (by decide) (by omega) (by omega)) g2) (by decide) (by decide) (by omega) (by omega)) g3) g4) (by decide) (by decide) (by omega) (by omega)) g5) g6) (by decide) (by decide) (by omega) (by omega)) (by decide) (by decide) (by omega) (by omega)) (by decide) (by decide) (by omega) (by omega)) (by decide) (by decide) (by omega) (by omega)) (by decide) (by decide) (by omega) (by omega)) g6.2.2.2.1 g6.2.2.2.2

set_option maxHeartbeats 800000 in
set_option maxRecDepth 100000 in
theorem eM_due_b10 {d : Nat} {h : jx_H} {Q : Option jx_V → jx_H → Prop} {h0 : jx_H} {B : Nat → Int32} {sz β t : Nat} {a b : Nat} {V : Nat → Nat → Nat} {W : Nat → Nat → List Nat} {D : Nat → Int32} (x : jML h B sz β t V W D) (F : jMF β h0 h) (hβ : β < 2) (hn : V 0 2 < 12) (h5 : V 0 1 ≤ 5) (h6 : V 0 0 ≤ 6) (hW : jnW (W 2) (V 0 2)) (hWp : jnW (W 1) (V 0 1)) (hWm : jnW (W 0) (V 0 0)) (k0 : jT_K B sz t = 3) (n0 : jnF (W 2) (jT_wd B sz (jT_p B sz t)) (V 0 2) 0 = none) (k1 : jT_K B sz (t + 1) = 113) (k2 : jT_K B sz (t + 2) = 3) (j2 : jnF (W 1) (jT_wd B sz (jT_p B sz (t + 2))) (V 0 1) 0 = some a) (k3 : jT_K B sz (t + 3) = 108) (k4 : jT_K B sz (t + 4) = 3) (j4 : jnF (W 1) (jT_wd B sz (jT_p B sz (t + 4))) (V 0 1) 0 = some b) (i4 : ¬ b = a) (k5 : jT_K B sz (t + 5) = 114) (k6 : ¬ jT_K B sz (t + 6) = 2) (k : ∀ h', jMF β h0 h' → jh_I h' 11 0 4 = jX_kd (jT_K B sz (t + 6)) → jPl h' (jT_p B sz (t + 6)) → Q none h')  : jx_Ev jm_MD_readDue (d + 8) 0 0 false 1 [jv_r 11 0] h Q := by
  show jx_W (jm_MD_readDue, d + 8, 0, 0, false, 1, _) Q 0 0 0 [some (jv_r 11 0), none] [] _
  obtain ⟨⟨t0, m0, f0, b0, -, -, -, -⟩, ⟨⟨a1, a2⟩, ⟨p1, p2⟩, ⟨c1, c2⟩, -⟩, -⟩ := id x
  have xb := b0
  have hr : ∀ j, j < V 0 2 → jh_L h 92 0 (12 * β + j) = jT_key (W 2 j) := fun j hj => (c2 j hj).2
  have hj2 := (jnF_lt _ _ _ j2).2.1
  have hj4 := (jnF_lt _ _ _ j4).2.1
  refine jr_ic rfl ?_
  refine jr_aload rfl rfl ?_
  refine jr_getI rfl rfl ?_
  refine jr_imul rfl ?_
  refine jr_aload rfl rfl ?_
  refine jr_getR rfl rfl rfl rfl (Or.inl rfl) ?_
  refine jr_aload rfl rfl ?_
  refine jr_getI rfl rfl ?_
  refine jr_iald (len := 2) rfl rfl b0 (by omega) ?_
  refine jr_iadd rfl ?_
  rw [xb, c1, show (12 : Int32) * nI β + nI (V 0 2) = nI (12 * β + V 0 2) from jn_add (jn_mul rfl rfl) rfl]
  refine jr_ist1 rfl rfl ?_
  refine jr_aload rfl rfl ?_
  refine jr_getR rfl rfl rfl rfl (Or.inl rfl) ?_
  refine jr_iload rfl rfl ?_
  refine jr_aload rfl rfl ?_
  refine jr_aload rfl rfl ?_
  refine jr_aload rfl rfl ?_
  refine jr_getR rfl rfl rfl rfl (Or.inl rfl) ?_
  refine jr_ic rfl ?_
  refine jr_aload rfl rfl ?_
  refine jr_getI rfl rfl ?_
  refine jr_imul rfl ?_
  refine jr_aload rfl rfl ?_
  refine jr_getR rfl rfl rfl rfl (Or.inl rfl) ?_
  refine jr_aload rfl rfl ?_
  refine jr_getI rfl rfl ?_
  refine jr_iald (len := 2) rfl rfl b0 (by omega) ?_
  rw [xb, c1, show (12 : Int32) * nI β = nI (12 * β) from jn_mul rfl rfl]
  refine jr_cv3 (mc' := 0) (ms' := 0) rfl jm_MD_here_n jm_MD_here_f rfl rfl rfl rfl rfl rfl rfl (Nat.zero_le _) (Nat.zero_le _) ?_
  refine eM_here_d m0 hβ hW hr (by omega) ?_
  rw [if_pos k0, n0]
  refine jr_cv1 (mc' := 0) (ms' := 0) rfl jm_MD_fresh_n jm_MD_fresh_f rfl rfl rfl rfl rfl rfl rfl (Nat.zero_le _) (Nat.zero_le _) ?_
  refine eM_fresh_y (B := B) (sz := sz) (t := t) t0 m0 f0 k0 (fun h1 g1 m1 => ?_)
  have t1 := jX_t_MG g1 t0
  have f1 : jh_I h1 11 0 4 = 0 := (g1.2.2.2 4 (by decide)).trans f0
  have b1 : jh_I h1 11 0 44 = nI β := (g1.2.2.2 44 (by decide)).trans b0
  refine jr_last (len := 24) rfl rfl rfl (by omega) ?_
  refine jr_aload rfl rfl ?_
  refine jr_aload rfl rfl ?_
  refine jr_lc rfl ?_
  refine jr_cv1 (mc' := 0) (ms' := 0) rfl jm_MD_isWord_n jm_MD_isWord_f rfl rfl rfl rfl rfl rfl rfl (Nat.zero_le _) (Nat.zero_le _) ?_
  refine eM_isWord (B := B) (sz := sz) (t := t + 1) m1 (i := 13) (by decide) jT_W13 ?_
  refine jr_cv1 (mc' := 0) (ms' := 0) rfl jm_MD_must_n jm_MD_must_f rfl rfl rfl rfl rfl rfl rfl (Nat.zero_le _) (Nat.zero_le _) ?_
  refine eM_must_y (B := B) (sz := sz) (t := t + 1) t1 m1 f1 (by rw [if_pos k1]; decide) (fun h2 g2 m2 => ?_)
  have t2 := jX_t_MG g2 t1
  have f2 : jh_I h2 11 0 4 = 0 := (g2.2.2.2 4 (by decide)).trans f1
  have b2 : jh_I h2 11 0 44 = nI β := (g2.2.2.2 44 (by decide)).trans b1
  refine jr_aload rfl rfl ?_
  refine jr_getR rfl rfl rfl rfl (Or.inl rfl) ?_
  refine jr_iload rfl rfl ?_
  refine jr_aload rfl rfl ?_
  refine jr_aload rfl rfl ?_
  refine jr_cv0 (mc' := 0) (ms' := 0) rfl jm_MD_personHere_n jm_MD_personHere_f rfl rfl rfl rfl rfl rfl rfl (Nat.zero_le _) (Nat.zero_le _) ?_
  show jx_W (jm_MD_personHere, _, _, _, _, _, _) _ 0 0 0 [some _] [] _
  refine jr_aload rfl rfl ?_
  refine jr_aload rfl rfl ?_
  refine jr_getR rfl rfl rfl rfl (Or.inl rfl) ?_
  refine jr_ic rfl ?_
  refine jr_aload rfl rfl ?_
  refine jr_getI rfl rfl ?_
  refine jr_imul rfl ?_
  refine jr_aload rfl rfl ?_
  refine jr_getR rfl rfl rfl rfl (Or.inl rfl) ?_
  refine jr_aload rfl rfl ?_
  refine jr_getI rfl rfl ?_
  refine jr_iald (len := 2) rfl rfl (by first | exact b4 | exact b2) (by omega) ?_
  rw [show jh_I (h2) 11 0 44 = nI β from b2, show jh_I (h2) 67 0 β = nI (V 0 1) from (congrFun ((g2.1 67 0 (by decide)).trans (g1.1 67 0 (by decide))) β).trans p1, show (5 : Int32) * nI β = nI (5 * β) from jn_mul rfl rfl]
  refine jr_cv3 (mc' := 0) (ms' := 0) rfl jm_MD_here_n jm_MD_here_f rfl rfl rfl rfl rfl rfl rfl (Nat.zero_le _) (Nat.zero_le _) ?_
  refine eM_here_p (B := B) (sz := sz) (t := t + 2) m2 hβ hWp (fun j hj => (congrFun ((g2.2.1 91 0 (by decide)).trans (g1.2.1 91 0 (by decide))) _).trans ((p2 j hj).2)) (by omega) ?_
  refine jr_iret rfl rfl (Nat.zero_le _) (Nat.zero_le _) ?_
  rw [if_pos k2, j2]
  refine jr_cv1 (mc' := 0) (ms' := 0) rfl jm_MD_told_n jm_MD_told_f rfl rfl rfl rfl rfl rfl rfl (Nat.zero_le _) (Nat.zero_le _) ?_
  refine eM_told_y (j := a) (B := B) (sz := sz) (t := t + 2) t2 m2 f2 k2 (by omega) ?_
  refine jr_iast (len := 24) rfl rfl rfl (by omega) ?_
  refine jr_aload rfl rfl ?_
  refine jr_cv0 (mc' := 0) (ms' := 0) rfl jm_MD_isGood_n jm_MD_isGood_f rfl rfl rfl rfl rfl rfl rfl (Nat.zero_le _) (Nat.zero_le _) ?_
  show jx_W (jm_MD_isGood, _, _, _, _, _, _) _ 0 0 0 [some _] [] _
  refine jr_aload rfl rfl ?_
  refine jr_getI rfl rfl ?_
  refine jr_if_ne rfl (fun z => absurd f2 z) (fun _ => ?_)
  refine jr_ic rfl ?_
  refine jr_goto rfl ?_
  refine jr_zret rfl rfl rfl (Nat.zero_le _) (Nat.zero_le _) ?_
  refine jr_if_eq rfl (fun z => absurd z (by decide)) (fun _ => ?_)
  refine jr_aload rfl rfl ?_
  refine jr_cv0 (mc' := 0) (ms' := 0) rfl jm_MD_goOn_n jm_MD_goOn_f rfl rfl rfl rfl rfl rfl rfl (Nat.zero_le _) (Nat.zero_le _) ?_
  refine eM_goOn (B := B) (sz := sz) (t := t + 3) t2.1 t2.2.1 t2.2.2.1 m2.2.1 (fun h3 g3 m3 => ?_)
  have t3 := jX_t_MG g3 t2
  have f3 : jh_I h3 11 0 4 = 0 := (g3.2.2.2 4 (by decide)).trans f2
  have b3 : jh_I h3 11 0 44 = nI β := (g3.2.2.2 44 (by decide)).trans b2
  refine jr_aload rfl rfl ?_
  refine jr_aload rfl rfl ?_
  refine jr_lc rfl ?_
  refine jr_cv1 (mc' := 0) (ms' := 0) rfl jm_MD_isWord_n jm_MD_isWord_f rfl rfl rfl rfl rfl rfl rfl (Nat.zero_le _) (Nat.zero_le _) ?_
  refine eM_isWord (B := B) (sz := sz) (t := t + 3) m3 (i := 8) (by decide) jT_W8 ?_
  refine jr_cv1 (mc' := 0) (ms' := 0) rfl jm_MD_must_n jm_MD_must_f rfl rfl rfl rfl rfl rfl rfl (Nat.zero_le _) (Nat.zero_le _) ?_
  refine eM_must_y (B := B) (sz := sz) (t := t + 3) t3 m3 f3 (by rw [if_pos k3]; decide) (fun h4 g4 m4 => ?_)
  have t4 := jX_t_MG g4 t3
  have f4 : jh_I h4 11 0 4 = 0 := (g4.2.2.2 4 (by decide)).trans f3
  have b4 : jh_I h4 11 0 44 = nI β := (g4.2.2.2 44 (by decide)).trans b3
  refine jr_aload rfl rfl ?_
  refine jr_getR rfl rfl rfl rfl (Or.inl rfl) ?_
  refine jr_iload rfl rfl ?_
  refine jr_aload rfl rfl ?_
  refine jr_aload rfl rfl ?_
  refine jr_cv0 (mc' := 0) (ms' := 0) rfl jm_MD_personHere_n jm_MD_personHere_f rfl rfl rfl rfl rfl rfl rfl (Nat.zero_le _) (Nat.zero_le _) ?_
  show jx_W (jm_MD_personHere, _, _, _, _, _, _) _ 0 0 0 [some _] [] _
  refine jr_aload rfl rfl ?_
  refine jr_aload rfl rfl ?_
  refine jr_getR rfl rfl rfl rfl (Or.inl rfl) ?_
  refine jr_ic rfl ?_
  refine jr_aload rfl rfl ?_
  refine jr_getI rfl rfl ?_
  refine jr_imul rfl ?_
  refine jr_aload rfl rfl ?_
  refine jr_getR rfl rfl rfl rfl (Or.inl rfl) ?_
  refine jr_aload rfl rfl ?_
  refine jr_getI rfl rfl ?_
  refine jr_iald (len := 2) rfl rfl (by first | exact b4 | exact b2) (by omega) ?_
  rw [show jh_I (h4) 11 0 44 = nI β from b4, show jh_I (h4) 67 0 β = nI (V 0 1) from (congrFun ((g4.1 67 0 (by decide)).trans ((g3.1 67 0 (by decide)).trans ((g2.1 67 0 (by decide)).trans (g1.1 67 0 (by decide))))) β).trans p1, show (5 : Int32) * nI β = nI (5 * β) from jn_mul rfl rfl]
  refine jr_cv3 (mc' := 0) (ms' := 0) rfl jm_MD_here_n jm_MD_here_f rfl rfl rfl rfl rfl rfl rfl (Nat.zero_le _) (Nat.zero_le _) ?_
  refine eM_here_p (B := B) (sz := sz) (t := t + 4) m4 hβ hWp (fun j hj => (congrFun ((g4.2.1 91 0 (by decide)).trans ((g3.2.1 91 0 (by decide)).trans ((g2.2.1 91 0 (by decide)).trans (g1.2.1 91 0 (by decide))))) _).trans ((p2 j hj).2)) (by omega) ?_
  refine jr_iret rfl rfl (Nat.zero_le _) (Nat.zero_le _) ?_
  rw [if_pos k4, j4]
  refine jr_cv1 (mc' := 0) (ms' := 0) rfl jm_MD_told_n jm_MD_told_f rfl rfl rfl rfl rfl rfl rfl (Nat.zero_le _) (Nat.zero_le _) ?_
  refine eM_told_y (j := b) (B := B) (sz := sz) (t := t + 4) t4 m4 f4 k4 (by omega) ?_
  refine jr_iast (len := 24) rfl rfl rfl (by omega) ?_
  refine jr_aload rfl rfl ?_
  refine jr_cv0 (mc' := 0) (ms' := 0) rfl jm_MD_isGood_n jm_MD_isGood_f rfl rfl rfl rfl rfl rfl rfl (Nat.zero_le _) (Nat.zero_le _) ?_
  show jx_W (jm_MD_isGood, _, _, _, _, _, _) _ 0 0 0 [some _] [] _
  refine jr_aload rfl rfl ?_
  refine jr_getI rfl rfl ?_
  refine jr_if_ne rfl (fun z => absurd f4 z) (fun _ => ?_)
  refine jr_ic rfl ?_
  refine jr_goto rfl ?_
  refine jr_zret rfl rfl rfl (Nat.zero_le _) (Nat.zero_le _) ?_
  refine jr_if_eq rfl (fun z => absurd z (by decide)) (fun _ => ?_)
  refine jr_aload rfl rfl ?_
  refine jr_getR rfl rfl rfl rfl (Or.inl rfl) ?_
  refine jr_iload rfl rfl ?_
  refine jr_iald (len := 24) rfl rfl rfl (by omega) ?_
  rw [jg_Iuu]
  refine jr_aload rfl rfl ?_
  refine jr_getR rfl rfl rfl rfl (Or.inl rfl) ?_
  refine jr_iload rfl rfl ?_
  refine jr_iald (len := 24) rfl rfl rfl (by omega) ?_
  rw [show jh_I (ju_I (h4) 74 0 (upd (jh_I (h4) 74 0) ((12 * β + V 0 2)) (nI b))) 73 0 (12 * β + V 0 2) = nI a from (congrFun ((g4.1 73 0 (by decide)).trans ((g3.1 73 0 (by decide)).trans (congrArg (fun F => upd F ((12 * β + V 0 2)) (nI a)) ((g2.1 73 0 (by decide)).trans (g1.1 73 0 (by decide)))))) (12 * β + V 0 2)).trans (jg_us _ _ _)]
  refine jr_icmp_ne rfl (fun _ => ?_) (fun z => absurd z (fun y => i4 (jn_eq (show nI b = nI a from y) (by omega) (by omega))))
  refine jr_aload rfl rfl ?_
  refine jr_cv0 (mc' := 0) (ms' := 0) rfl jm_MD_isGood_n jm_MD_isGood_f rfl rfl rfl rfl rfl rfl rfl (Nat.zero_le _) (Nat.zero_le _) ?_
  show jx_W (jm_MD_isGood, _, _, _, _, _, _) _ 0 0 0 [some _] [] _
  refine jr_aload rfl rfl ?_
  refine jr_getI rfl rfl ?_
  refine jr_if_ne rfl (fun z => absurd f4 z) (fun _ => ?_)
  refine jr_ic rfl ?_
  refine jr_goto rfl ?_
  refine jr_zret rfl rfl rfl (Nat.zero_le _) (Nat.zero_le _) ?_
  refine jr_if_eq rfl (fun z => absurd z (by decide)) (fun _ => ?_)
  refine jr_aload rfl rfl ?_
  refine jr_cv0 (mc' := 0) (ms' := 0) rfl jm_MD_goOn_n jm_MD_goOn_f rfl rfl rfl rfl rfl rfl rfl (Nat.zero_le _) (Nat.zero_le _) ?_
  refine eM_goOn (B := B) (sz := sz) (t := t + 5) t4.1 t4.2.1 t4.2.2.1 m4.2.1 (fun h5 g5 m5 => ?_)
  have t5 := jX_t_MG g5 t4
  have f5 : jh_I h5 11 0 4 = 0 := (g5.2.2.2 4 (by decide)).trans f4
  have b5 : jh_I h5 11 0 44 = nI β := (g5.2.2.2 44 (by decide)).trans b4
  refine jr_aload rfl rfl ?_
  refine jr_getR rfl rfl rfl rfl (Or.inl rfl) ?_
  refine jr_iload rfl rfl ?_
  refine jr_aload rfl rfl ?_
  refine jr_lc rfl ?_
  refine jr_ic rfl ?_
  refine jr_ic rfl ?_
  refine jr_cv3 (mc' := 0) (ms' := 0) rfl jm_MD_after_n jm_MD_after_f rfl rfl rfl rfl rfl rfl rfl (Nat.zero_le _) (Nat.zero_le _) ?_
  show jx_W (jm_MD_after, _, _, _, _, _, _) _ 0 0 0 [some _, some _, none, some _, some _] [] _
  refine jr_aload rfl rfl ?_
  refine jr_aload rfl rfl ?_
  refine jr_lload rfl rfl ?_
  refine jr_cv1 (mc' := 0) (ms' := 0) rfl jm_MD_isWord_n jm_MD_isWord_f rfl rfl rfl rfl rfl rfl rfl (Nat.zero_le _) (Nat.zero_le _) ?_
  refine eM_isWord (B := B) (sz := sz) (t := t + 5) m5 (i := 14) (by decide) jT_W14 ?_
  refine jr_cv1 (mc' := 0) (ms' := 0) rfl jm_MD_must_n jm_MD_must_f rfl rfl rfl rfl rfl rfl rfl (Nat.zero_le _) (Nat.zero_le _) ?_
  refine eM_must_y (B := B) (sz := sz) (t := t + 5) t5 m5 f5 (by rw [if_pos k5]; decide) (fun h6 g6 m6 => ?_)
  have t6 := jX_t_MG g6 t5
  have f6 : jh_I h6 11 0 4 = 0 := (g6.2.2.2 4 (by decide)).trans f5
  have b6 : jh_I h6 11 0 44 = nI β := (g6.2.2.2 44 (by decide)).trans b5
  refine jr_aload rfl rfl ?_
  refine jr_iload rfl rfl ?_
  refine jr_iload rfl rfl ?_
  refine jr_cv2 (mc' := 0) (ms' := 0) rfl jm_MD_numeral_n jm_MD_numeral_f rfl rfl rfl rfl rfl rfl rfl (Nat.zero_le _) (Nat.zero_le _) ?_
  refine eM_num_n (B := B) (sz := sz) (lo := 1) (hi := 99) (t := t + 6) t6 m6 f6 k6 (fun h7 g7 => ?_)
  have e7 : ¬ jh_I h7 11 0 4 = 0 := by rw [g7.2.2.2.1]; exact jX_kd_n _
  have m7 := jT_mc_ft g7 m6
  have b7 : jh_I h7 11 0 44 = nI β := (g7.2.2.1 44 (by decide) (by decide)).trans b6
  refine jr_iret rfl rfl (Nat.zero_le _) (Nat.zero_le _) ?_
  refine jr_iast (len := 24) rfl rfl rfl (by omega) ?_
  refine jr_aload rfl rfl ?_
  refine jr_getR rfl rfl rfl rfl (Or.inl rfl) ?_
  refine jr_iload rfl rfl ?_
  refine jr_aload rfl rfl ?_
  refine jr_lc rfl ?_
  refine jr_ic rfl ?_
  refine jr_ic rfl ?_
  refine jr_cv3 (mc' := 0) (ms' := 0) rfl jm_MD_after_n jm_MD_after_f rfl rfl rfl rfl rfl rfl rfl (Nat.zero_le _) (Nat.zero_le _) ?_
  show jx_W (jm_MD_after, _, _, _, _, _, _) _ 0 0 0 [some _, some _, none, some _, some _] [] _
  refine jr_aload rfl rfl ?_
  refine jr_aload rfl rfl ?_
  refine jr_lload rfl rfl ?_
  refine jr_cv1 (mc' := 0) (ms' := 0) rfl jm_MD_isWord_n jm_MD_isWord_f rfl rfl rfl rfl rfl rfl rfl (Nat.zero_le _) (Nat.zero_le _) ?_
  refine eM_isWord (B := B) (sz := sz) (t := t + 6) m7 (i := 15) (by decide) jT_W15 ?_
  refine jr_cv1 (mc' := 0) (ms' := 0) rfl jm_MD_must_n jm_MD_must_f rfl rfl rfl rfl rfl rfl rfl (Nat.zero_le _) (Nat.zero_le _) ?_
  refine eM_must_b e7 ?_
  refine jr_aload rfl rfl ?_
  refine jr_iload rfl rfl ?_
  refine jr_iload rfl rfl ?_
  refine jr_cv2 (mc' := 0) (ms' := 0) rfl jm_MD_numeral_n jm_MD_numeral_f rfl rfl rfl rfl rfl rfl rfl (Nat.zero_le _) (Nat.zero_le _) ?_
  refine eM_num_b (lo := 1) (hi := 31) e7 ?_
  refine jr_iret rfl rfl (Nat.zero_le _) (Nat.zero_le _) ?_
  refine jr_iast (len := 24) rfl rfl rfl (by omega) ?_
  refine jr_aload rfl rfl ?_
  refine jr_aload rfl rfl ?_
  refine jr_lc rfl ?_
  refine jr_cv1 (mc' := 0) (ms' := 0) rfl jm_MD_isWord_n jm_MD_isWord_f rfl rfl rfl rfl rfl rfl rfl (Nat.zero_le _) (Nat.zero_le _) ?_
  refine eM_isWord (B := B) (sz := sz) (t := t + 6) m7 (i := 16) (by decide) jT_W16 ?_
  refine jr_cv1 (mc' := 0) (ms' := 0) rfl jm_MD_must_n jm_MD_must_f rfl rfl rfl rfl rfl rfl rfl (Nat.zero_le _) (Nat.zero_le _) ?_
  refine eM_must_b e7 ?_
  refine jr_aload rfl rfl ?_
  refine jr_getR rfl rfl rfl rfl (Or.inl rfl) ?_
  refine jr_iload rfl rfl ?_
  refine jr_aload rfl rfl ?_
  refine jr_aload rfl rfl ?_
  refine jr_aload rfl rfl ?_
  refine jr_getR rfl rfl rfl rfl (Or.inl rfl) ?_
  refine jr_ic rfl ?_
  refine jr_aload rfl rfl ?_
  refine jr_getI rfl rfl ?_
  refine jr_imul rfl ?_
  refine jr_aload rfl rfl ?_
  refine jr_getR rfl rfl rfl rfl (Or.inl rfl) ?_
  refine jr_aload rfl rfl ?_
  refine jr_getI rfl rfl ?_
  refine jr_iald (len := 2) rfl rfl b7 (by omega) ?_
  rw [show jh_I (ju_I (ju_I (h7) 75 0 (upd (jh_I (h7) 75 0) ((12 * β + V 0 2)) (nI 1))) 76 0 (upd (jh_I (ju_I (h7) 75 0 (upd (jh_I (h7) 75 0) ((12 * β + V 0 2)) (nI 1))) 76 0) ((12 * β + V 0 2)) (nI 1))) 11 0 44 = nI β from b7, show jh_I (ju_I (ju_I (h7) 75 0 (upd (jh_I (h7) 75 0) ((12 * β + V 0 2)) (nI 1))) 76 0 (upd (jh_I (ju_I (h7) 75 0 (upd (jh_I (h7) 75 0) ((12 * β + V 0 2)) (nI 1))) 76 0) ((12 * β + V 0 2)) (nI 1))) 66 0 β = nI (V 0 0) from (congrFun ((g7.1 66 0 (by decide)).trans ((g6.1 66 0 (by decide)).trans ((g5.1 66 0 (by decide)).trans ((g4.1 66 0 (by decide)).trans ((g3.1 66 0 (by decide)).trans ((g2.1 66 0 (by decide)).trans (g1.1 66 0 (by decide)))))))) β).trans a1, show (6 : Int32) * nI β = nI (6 * β) from jn_mul rfl rfl]
  refine jr_cv3 (mc' := 0) (ms' := 0) rfl jm_MD_here_n jm_MD_here_f rfl rfl rfl rfl rfl rfl rfl (Nat.zero_le _) (Nat.zero_le _) ?_
  refine eM_here_m (B := B) (sz := sz) (t := t + 6) m7 hβ hWm (fun j hj => (congrFun ((congrFun (congrFun (congrArg (·.1) g7.2.1) 90) 0).trans ((g6.2.1 90 0 (by decide)).trans ((g5.2.1 90 0 (by decide)).trans ((g4.2.1 90 0 (by decide)).trans ((g3.2.1 90 0 (by decide)).trans ((g2.2.1 90 0 (by decide)).trans (g1.2.1 90 0 (by decide)))))))) _).trans ((a2 j hj).2.2)) (by omega) ?_
  refine jr_cv1 (mc' := 0) (ms' := 0) rfl jm_MD_told_n jm_MD_told_f rfl rfl rfl rfl rfl rfl rfl (Nat.zero_le _) (Nat.zero_le _) ?_
  refine eM_told_b e7 ?_
  refine jr_iast (len := 24) rfl rfl rfl (by omega) ?_
  refine jr_aload rfl rfl ?_
  refine jr_cv0 (mc' := 0) (ms' := 0) rfl jm_MD_isGood_n jm_MD_isGood_f rfl rfl rfl rfl rfl rfl rfl (Nat.zero_le _) (Nat.zero_le _) ?_
  show jx_W (jm_MD_isGood, _, _, _, _, _, _) _ 0 0 0 [some _] [] _
  refine jr_aload rfl rfl ?_
  refine jr_getI rfl rfl ?_
  refine jr_if_ne rfl (fun _ => ?_) (fun z => absurd z e7)
  refine jr_ic rfl ?_
  refine jr_zret rfl rfl rfl (Nat.zero_le _) (Nat.zero_le _) ?_
  refine jr_if_eq rfl (fun _ => ?_) (fun z => absurd (by decide) z)
  refine jr_aload rfl rfl ?_
  refine jr_getR rfl rfl rfl rfl (Or.inl rfl) ?_
  refine jr_iload rfl rfl ?_
  refine jr_aload rfl rfl ?_
  refine jr_lc rfl ?_
  refine jr_cv1 (mc' := 0) (ms' := 0) rfl jm_MD_has_n jm_MD_has_f rfl rfl rfl rfl rfl rfl rfl (Nat.zero_le _) (Nat.zero_le _) ?_
  refine eM_has_b e7 ?_
  refine jr_zast (len := 24) rfl rfl rfl (by omega) ?_
  refine jr_aload rfl rfl ?_
  refine jr_getR rfl rfl rfl rfl (Or.inl rfl) ?_
  refine jr_aload rfl rfl ?_
  refine jr_getI rfl rfl ?_
  refine jr_dup2 rfl ?_
  refine jr_iald (len := 2) rfl rfl b7 (by omega) ?_
  refine jr_ic rfl ?_
  refine jr_iadd rfl ?_
  rw [show jh_I (ju_I (ju_I (ju_I (ju_I (h7) 75 0 (upd (jh_I (h7) 75 0) ((12 * β + V 0 2)) (nI 1))) 76 0 (upd (jh_I (ju_I (h7) 75 0 (upd (jh_I (h7) 75 0) ((12 * β + V 0 2)) (nI 1))) 76 0) ((12 * β + V 0 2)) (nI 1))) 77 0 (upd (jh_I (ju_I (ju_I (h7) 75 0 (upd (jh_I (h7) 75 0) ((12 * β + V 0 2)) (nI 1))) 76 0 (upd (jh_I (ju_I (h7) 75 0 (upd (jh_I (h7) 75 0) ((12 * β + V 0 2)) (nI 1))) 76 0) ((12 * β + V 0 2)) (nI 1))) 77 0) ((12 * β + V 0 2)) (0))) 84 0 (upd (jh_I (ju_I (ju_I (ju_I (h7) 75 0 (upd (jh_I (h7) 75 0) ((12 * β + V 0 2)) (nI 1))) 76 0 (upd (jh_I (ju_I (h7) 75 0 (upd (jh_I (h7) 75 0) ((12 * β + V 0 2)) (nI 1))) 76 0) ((12 * β + V 0 2)) (nI 1))) 77 0 (upd (jh_I (ju_I (ju_I (h7) 75 0 (upd (jh_I (h7) 75 0) ((12 * β + V 0 2)) (nI 1))) 76 0 (upd (jh_I (ju_I (h7) 75 0 (upd (jh_I (h7) 75 0) ((12 * β + V 0 2)) (nI 1))) 76 0) ((12 * β + V 0 2)) (nI 1))) 77 0) ((12 * β + V 0 2)) (0))) 84 0) ((12 * β + V 0 2)) (0 &&& 1))) 68 0 β = nI (V 0 2) from (congrFun ((g7.1 68 0 (by decide)).trans ((g6.1 68 0 (by decide)).trans ((g5.1 68 0 (by decide)).trans ((g4.1 68 0 (by decide)).trans ((g3.1 68 0 (by decide)).trans ((g2.1 68 0 (by decide)).trans (g1.1 68 0 (by decide)))))))) β).trans c1, show nI (V 0 2) + 1 = nI (V 0 2 + 1) from jn_S _]
  refine jr_iast (len := 2) rfl rfl b7 (by omega) ?_
  refine jr_vret rfl rfl (Nat.zero_le _) (Nat.zero_le _) ?_
  exact k _ (jMF_I (a := 68) (w := 1) (jMF_I (a := 84) (w := 12) (jMF_I (a := 77) (w := 12) (jMF_I (a := 76) (w := 12) (jMF_I (a := 75) (w := 12) (jMF_ft (jMF_G (jMF_G (jMF_I (a := 74) (w := 12) (jMF_G (jMF_G (jMF_I (a := 73) (w := 12) (jMF_G (jMF_L (a := 92) (w := 12) (jMF_G (F) g1) (by decide) (by decide) (by omega) (by omega)) g2) (by decide) (by decide) (by omega) (by omega)) g3) g4) (by decide) (by decide) (by omega) (by omega)) g5) g6) g7) (by decide) (by decide) (by omega) (by omega)) (by decide) (by decide) (by omega) (by omega)) (by decide) (by decide) (by omega) (by omega)) (by decide) (by decide) (by omega) (by omega)) (by decide) (by decide) (by omega) (by omega)) g7.2.2.2.1 g7.2.2.2.2

set_option maxHeartbeats 800000 in
set_option maxRecDepth 100000 in
theorem eM_due_b11 {d : Nat} {h : jx_H} {Q : Option jx_V → jx_H → Prop} {h0 : jx_H} {B : Nat → Int32} {sz β t : Nat} {a b : Nat} {V : Nat → Nat → Nat} {W : Nat → Nat → List Nat} {D : Nat → Int32} (x : jML h B sz β t V W D) (F : jMF β h0 h) (hβ : β < 2) (hn : V 0 2 < 12) (h5 : V 0 1 ≤ 5) (h6 : V 0 0 ≤ 6) (hW : jnW (W 2) (V 0 2)) (hWp : jnW (W 1) (V 0 1)) (hWm : jnW (W 0) (V 0 0)) (k0 : jT_K B sz t = 3) (n0 : jnF (W 2) (jT_wd B sz (jT_p B sz t)) (V 0 2) 0 = none) (k1 : jT_K B sz (t + 1) = 113) (k2 : jT_K B sz (t + 2) = 3) (j2 : jnF (W 1) (jT_wd B sz (jT_p B sz (t + 2))) (V 0 1) 0 = some a) (k3 : jT_K B sz (t + 3) = 108) (k4 : jT_K B sz (t + 4) = 3) (j4 : jnF (W 1) (jT_wd B sz (jT_p B sz (t + 4))) (V 0 1) 0 = some b) (i4 : ¬ b = a) (k5 : jT_K B sz (t + 5) = 114) (k6 : jT_K B sz (t + 6) = 2) (r6 : jT_v B sz (jT_p B sz (t + 6)) < 1 ∨ 99 < jT_v B sz (jT_p B sz (t + 6))) (k : ∀ h', jMF β h0 h' → jh_I h' 11 0 4 = 4 → jPl h' (jT_p B sz (t + 6)) → Q none h')  : jx_Ev jm_MD_readDue (d + 8) 0 0 false 1 [jv_r 11 0] h Q := by
  show jx_W (jm_MD_readDue, d + 8, 0, 0, false, 1, _) Q 0 0 0 [some (jv_r 11 0), none] [] _
  obtain ⟨⟨t0, m0, f0, b0, -, -, -, -⟩, ⟨⟨a1, a2⟩, ⟨p1, p2⟩, ⟨c1, c2⟩, -⟩, -⟩ := id x
  have xb := b0
  have hr : ∀ j, j < V 0 2 → jh_L h 92 0 (12 * β + j) = jT_key (W 2 j) := fun j hj => (c2 j hj).2
  have hj2 := (jnF_lt _ _ _ j2).2.1
  have hj4 := (jnF_lt _ _ _ j4).2.1
  refine jr_ic rfl ?_
  refine jr_aload rfl rfl ?_
  refine jr_getI rfl rfl ?_
  refine jr_imul rfl ?_
  refine jr_aload rfl rfl ?_
  refine jr_getR rfl rfl rfl rfl (Or.inl rfl) ?_
  refine jr_aload rfl rfl ?_
  refine jr_getI rfl rfl ?_
  refine jr_iald (len := 2) rfl rfl b0 (by omega) ?_
  refine jr_iadd rfl ?_
  rw [xb, c1, show (12 : Int32) * nI β + nI (V 0 2) = nI (12 * β + V 0 2) from jn_add (jn_mul rfl rfl) rfl]
  refine jr_ist1 rfl rfl ?_
  refine jr_aload rfl rfl ?_
  refine jr_getR rfl rfl rfl rfl (Or.inl rfl) ?_
  refine jr_iload rfl rfl ?_
  refine jr_aload rfl rfl ?_
  refine jr_aload rfl rfl ?_
  refine jr_aload rfl rfl ?_
  refine jr_getR rfl rfl rfl rfl (Or.inl rfl) ?_
  refine jr_ic rfl ?_
  refine jr_aload rfl rfl ?_
  refine jr_getI rfl rfl ?_
  refine jr_imul rfl ?_
  refine jr_aload rfl rfl ?_
  refine jr_getR rfl rfl rfl rfl (Or.inl rfl) ?_
  refine jr_aload rfl rfl ?_
  refine jr_getI rfl rfl ?_
  refine jr_iald (len := 2) rfl rfl b0 (by omega) ?_
  rw [xb, c1, show (12 : Int32) * nI β = nI (12 * β) from jn_mul rfl rfl]
  refine jr_cv3 (mc' := 0) (ms' := 0) rfl jm_MD_here_n jm_MD_here_f rfl rfl rfl rfl rfl rfl rfl (Nat.zero_le _) (Nat.zero_le _) ?_
  refine eM_here_d m0 hβ hW hr (by omega) ?_
  rw [if_pos k0, n0]
  refine jr_cv1 (mc' := 0) (ms' := 0) rfl jm_MD_fresh_n jm_MD_fresh_f rfl rfl rfl rfl rfl rfl rfl (Nat.zero_le _) (Nat.zero_le _) ?_
  refine eM_fresh_y (B := B) (sz := sz) (t := t) t0 m0 f0 k0 (fun h1 g1 m1 => ?_)
  have t1 := jX_t_MG g1 t0
  have f1 : jh_I h1 11 0 4 = 0 := (g1.2.2.2 4 (by decide)).trans f0
  have b1 : jh_I h1 11 0 44 = nI β := (g1.2.2.2 44 (by decide)).trans b0
  refine jr_last (len := 24) rfl rfl rfl (by omega) ?_
  refine jr_aload rfl rfl ?_
  refine jr_aload rfl rfl ?_
  refine jr_lc rfl ?_
  refine jr_cv1 (mc' := 0) (ms' := 0) rfl jm_MD_isWord_n jm_MD_isWord_f rfl rfl rfl rfl rfl rfl rfl (Nat.zero_le _) (Nat.zero_le _) ?_
  refine eM_isWord (B := B) (sz := sz) (t := t + 1) m1 (i := 13) (by decide) jT_W13 ?_
  refine jr_cv1 (mc' := 0) (ms' := 0) rfl jm_MD_must_n jm_MD_must_f rfl rfl rfl rfl rfl rfl rfl (Nat.zero_le _) (Nat.zero_le _) ?_
  refine eM_must_y (B := B) (sz := sz) (t := t + 1) t1 m1 f1 (by rw [if_pos k1]; decide) (fun h2 g2 m2 => ?_)
  have t2 := jX_t_MG g2 t1
  have f2 : jh_I h2 11 0 4 = 0 := (g2.2.2.2 4 (by decide)).trans f1
  have b2 : jh_I h2 11 0 44 = nI β := (g2.2.2.2 44 (by decide)).trans b1
  refine jr_aload rfl rfl ?_
  refine jr_getR rfl rfl rfl rfl (Or.inl rfl) ?_
  refine jr_iload rfl rfl ?_
  refine jr_aload rfl rfl ?_
  refine jr_aload rfl rfl ?_
  refine jr_cv0 (mc' := 0) (ms' := 0) rfl jm_MD_personHere_n jm_MD_personHere_f rfl rfl rfl rfl rfl rfl rfl (Nat.zero_le _) (Nat.zero_le _) ?_
  show jx_W (jm_MD_personHere, _, _, _, _, _, _) _ 0 0 0 [some _] [] _
  refine jr_aload rfl rfl ?_
  refine jr_aload rfl rfl ?_
  refine jr_getR rfl rfl rfl rfl (Or.inl rfl) ?_
  refine jr_ic rfl ?_
  refine jr_aload rfl rfl ?_
  refine jr_getI rfl rfl ?_
  refine jr_imul rfl ?_
  refine jr_aload rfl rfl ?_
  refine jr_getR rfl rfl rfl rfl (Or.inl rfl) ?_
  refine jr_aload rfl rfl ?_
  refine jr_getI rfl rfl ?_
  refine jr_iald (len := 2) rfl rfl (by first | exact b4 | exact b2) (by omega) ?_
  rw [show jh_I (h2) 11 0 44 = nI β from b2, show jh_I (h2) 67 0 β = nI (V 0 1) from (congrFun ((g2.1 67 0 (by decide)).trans (g1.1 67 0 (by decide))) β).trans p1, show (5 : Int32) * nI β = nI (5 * β) from jn_mul rfl rfl]
  refine jr_cv3 (mc' := 0) (ms' := 0) rfl jm_MD_here_n jm_MD_here_f rfl rfl rfl rfl rfl rfl rfl (Nat.zero_le _) (Nat.zero_le _) ?_
  refine eM_here_p (B := B) (sz := sz) (t := t + 2) m2 hβ hWp (fun j hj => (congrFun ((g2.2.1 91 0 (by decide)).trans (g1.2.1 91 0 (by decide))) _).trans ((p2 j hj).2)) (by omega) ?_
  refine jr_iret rfl rfl (Nat.zero_le _) (Nat.zero_le _) ?_
  rw [if_pos k2, j2]
  refine jr_cv1 (mc' := 0) (ms' := 0) rfl jm_MD_told_n jm_MD_told_f rfl rfl rfl rfl rfl rfl rfl (Nat.zero_le _) (Nat.zero_le _) ?_
  refine eM_told_y (j := a) (B := B) (sz := sz) (t := t + 2) t2 m2 f2 k2 (by omega) ?_
  refine jr_iast (len := 24) rfl rfl rfl (by omega) ?_
  refine jr_aload rfl rfl ?_
  refine jr_cv0 (mc' := 0) (ms' := 0) rfl jm_MD_isGood_n jm_MD_isGood_f rfl rfl rfl rfl rfl rfl rfl (Nat.zero_le _) (Nat.zero_le _) ?_
  show jx_W (jm_MD_isGood, _, _, _, _, _, _) _ 0 0 0 [some _] [] _
  refine jr_aload rfl rfl ?_
  refine jr_getI rfl rfl ?_
  refine jr_if_ne rfl (fun z => absurd f2 z) (fun _ => ?_)
  refine jr_ic rfl ?_
  refine jr_goto rfl ?_
  refine jr_zret rfl rfl rfl (Nat.zero_le _) (Nat.zero_le _) ?_
  refine jr_if_eq rfl (fun z => absurd z (by decide)) (fun _ => ?_)
  refine jr_aload rfl rfl ?_
  refine jr_cv0 (mc' := 0) (ms' := 0) rfl jm_MD_goOn_n jm_MD_goOn_f rfl rfl rfl rfl rfl rfl rfl (Nat.zero_le _) (Nat.zero_le _) ?_
  refine eM_goOn (B := B) (sz := sz) (t := t + 3) t2.1 t2.2.1 t2.2.2.1 m2.2.1 (fun h3 g3 m3 => ?_)
  have t3 := jX_t_MG g3 t2
  have f3 : jh_I h3 11 0 4 = 0 := (g3.2.2.2 4 (by decide)).trans f2
  have b3 : jh_I h3 11 0 44 = nI β := (g3.2.2.2 44 (by decide)).trans b2
  refine jr_aload rfl rfl ?_
  refine jr_aload rfl rfl ?_
  refine jr_lc rfl ?_
  refine jr_cv1 (mc' := 0) (ms' := 0) rfl jm_MD_isWord_n jm_MD_isWord_f rfl rfl rfl rfl rfl rfl rfl (Nat.zero_le _) (Nat.zero_le _) ?_
  refine eM_isWord (B := B) (sz := sz) (t := t + 3) m3 (i := 8) (by decide) jT_W8 ?_
  refine jr_cv1 (mc' := 0) (ms' := 0) rfl jm_MD_must_n jm_MD_must_f rfl rfl rfl rfl rfl rfl rfl (Nat.zero_le _) (Nat.zero_le _) ?_
  refine eM_must_y (B := B) (sz := sz) (t := t + 3) t3 m3 f3 (by rw [if_pos k3]; decide) (fun h4 g4 m4 => ?_)
  have t4 := jX_t_MG g4 t3
  have f4 : jh_I h4 11 0 4 = 0 := (g4.2.2.2 4 (by decide)).trans f3
  have b4 : jh_I h4 11 0 44 = nI β := (g4.2.2.2 44 (by decide)).trans b3
  refine jr_aload rfl rfl ?_
  refine jr_getR rfl rfl rfl rfl (Or.inl rfl) ?_
  refine jr_iload rfl rfl ?_
  refine jr_aload rfl rfl ?_
  refine jr_aload rfl rfl ?_
  refine jr_cv0 (mc' := 0) (ms' := 0) rfl jm_MD_personHere_n jm_MD_personHere_f rfl rfl rfl rfl rfl rfl rfl (Nat.zero_le _) (Nat.zero_le _) ?_
  show jx_W (jm_MD_personHere, _, _, _, _, _, _) _ 0 0 0 [some _] [] _
  refine jr_aload rfl rfl ?_
  refine jr_aload rfl rfl ?_
  refine jr_getR rfl rfl rfl rfl (Or.inl rfl) ?_
  refine jr_ic rfl ?_
  refine jr_aload rfl rfl ?_
  refine jr_getI rfl rfl ?_
  refine jr_imul rfl ?_
  refine jr_aload rfl rfl ?_
  refine jr_getR rfl rfl rfl rfl (Or.inl rfl) ?_
  refine jr_aload rfl rfl ?_
  refine jr_getI rfl rfl ?_
  refine jr_iald (len := 2) rfl rfl (by first | exact b4 | exact b2) (by omega) ?_
  rw [show jh_I (h4) 11 0 44 = nI β from b4, show jh_I (h4) 67 0 β = nI (V 0 1) from (congrFun ((g4.1 67 0 (by decide)).trans ((g3.1 67 0 (by decide)).trans ((g2.1 67 0 (by decide)).trans (g1.1 67 0 (by decide))))) β).trans p1, show (5 : Int32) * nI β = nI (5 * β) from jn_mul rfl rfl]
  refine jr_cv3 (mc' := 0) (ms' := 0) rfl jm_MD_here_n jm_MD_here_f rfl rfl rfl rfl rfl rfl rfl (Nat.zero_le _) (Nat.zero_le _) ?_
  refine eM_here_p (B := B) (sz := sz) (t := t + 4) m4 hβ hWp (fun j hj => (congrFun ((g4.2.1 91 0 (by decide)).trans ((g3.2.1 91 0 (by decide)).trans ((g2.2.1 91 0 (by decide)).trans (g1.2.1 91 0 (by decide))))) _).trans ((p2 j hj).2)) (by omega) ?_
  refine jr_iret rfl rfl (Nat.zero_le _) (Nat.zero_le _) ?_
  rw [if_pos k4, j4]
  refine jr_cv1 (mc' := 0) (ms' := 0) rfl jm_MD_told_n jm_MD_told_f rfl rfl rfl rfl rfl rfl rfl (Nat.zero_le _) (Nat.zero_le _) ?_
  refine eM_told_y (j := b) (B := B) (sz := sz) (t := t + 4) t4 m4 f4 k4 (by omega) ?_
  refine jr_iast (len := 24) rfl rfl rfl (by omega) ?_
  refine jr_aload rfl rfl ?_
  refine jr_cv0 (mc' := 0) (ms' := 0) rfl jm_MD_isGood_n jm_MD_isGood_f rfl rfl rfl rfl rfl rfl rfl (Nat.zero_le _) (Nat.zero_le _) ?_
  show jx_W (jm_MD_isGood, _, _, _, _, _, _) _ 0 0 0 [some _] [] _
  refine jr_aload rfl rfl ?_
  refine jr_getI rfl rfl ?_
  refine jr_if_ne rfl (fun z => absurd f4 z) (fun _ => ?_)
  refine jr_ic rfl ?_
  refine jr_goto rfl ?_
  refine jr_zret rfl rfl rfl (Nat.zero_le _) (Nat.zero_le _) ?_
  refine jr_if_eq rfl (fun z => absurd z (by decide)) (fun _ => ?_)
  refine jr_aload rfl rfl ?_
  refine jr_getR rfl rfl rfl rfl (Or.inl rfl) ?_
  refine jr_iload rfl rfl ?_
  refine jr_iald (len := 24) rfl rfl rfl (by omega) ?_
  rw [jg_Iuu]
  refine jr_aload rfl rfl ?_
  refine jr_getR rfl rfl rfl rfl (Or.inl rfl) ?_
  refine jr_iload rfl rfl ?_
  refine jr_iald (len := 24) rfl rfl rfl (by omega) ?_
  rw [show jh_I (ju_I (h4) 74 0 (upd (jh_I (h4) 74 0) ((12 * β + V 0 2)) (nI b))) 73 0 (12 * β + V 0 2) = nI a from (congrFun ((g4.1 73 0 (by decide)).trans ((g3.1 73 0 (by decide)).trans (congrArg (fun F => upd F ((12 * β + V 0 2)) (nI a)) ((g2.1 73 0 (by decide)).trans (g1.1 73 0 (by decide)))))) (12 * β + V 0 2)).trans (jg_us _ _ _)]
  refine jr_icmp_ne rfl (fun _ => ?_) (fun z => absurd z (fun y => i4 (jn_eq (show nI b = nI a from y) (by omega) (by omega))))
  refine jr_aload rfl rfl ?_
  refine jr_cv0 (mc' := 0) (ms' := 0) rfl jm_MD_isGood_n jm_MD_isGood_f rfl rfl rfl rfl rfl rfl rfl (Nat.zero_le _) (Nat.zero_le _) ?_
  show jx_W (jm_MD_isGood, _, _, _, _, _, _) _ 0 0 0 [some _] [] _
  refine jr_aload rfl rfl ?_
  refine jr_getI rfl rfl ?_
  refine jr_if_ne rfl (fun z => absurd f4 z) (fun _ => ?_)
  refine jr_ic rfl ?_
  refine jr_goto rfl ?_
  refine jr_zret rfl rfl rfl (Nat.zero_le _) (Nat.zero_le _) ?_
  refine jr_if_eq rfl (fun z => absurd z (by decide)) (fun _ => ?_)
  refine jr_aload rfl rfl ?_
  refine jr_cv0 (mc' := 0) (ms' := 0) rfl jm_MD_goOn_n jm_MD_goOn_f rfl rfl rfl rfl rfl rfl rfl (Nat.zero_le _) (Nat.zero_le _) ?_
  refine eM_goOn (B := B) (sz := sz) (t := t + 5) t4.1 t4.2.1 t4.2.2.1 m4.2.1 (fun h5 g5 m5 => ?_)
  have t5 := jX_t_MG g5 t4
  have f5 : jh_I h5 11 0 4 = 0 := (g5.2.2.2 4 (by decide)).trans f4
  have b5 : jh_I h5 11 0 44 = nI β := (g5.2.2.2 44 (by decide)).trans b4
  refine jr_aload rfl rfl ?_
  refine jr_getR rfl rfl rfl rfl (Or.inl rfl) ?_
  refine jr_iload rfl rfl ?_
  refine jr_aload rfl rfl ?_
  refine jr_lc rfl ?_
  refine jr_ic rfl ?_
  refine jr_ic rfl ?_
  refine jr_cv3 (mc' := 0) (ms' := 0) rfl jm_MD_after_n jm_MD_after_f rfl rfl rfl rfl rfl rfl rfl (Nat.zero_le _) (Nat.zero_le _) ?_
  show jx_W (jm_MD_after, _, _, _, _, _, _) _ 0 0 0 [some _, some _, none, some _, some _] [] _
  refine jr_aload rfl rfl ?_
  refine jr_aload rfl rfl ?_
  refine jr_lload rfl rfl ?_
  refine jr_cv1 (mc' := 0) (ms' := 0) rfl jm_MD_isWord_n jm_MD_isWord_f rfl rfl rfl rfl rfl rfl rfl (Nat.zero_le _) (Nat.zero_le _) ?_
  refine eM_isWord (B := B) (sz := sz) (t := t + 5) m5 (i := 14) (by decide) jT_W14 ?_
  refine jr_cv1 (mc' := 0) (ms' := 0) rfl jm_MD_must_n jm_MD_must_f rfl rfl rfl rfl rfl rfl rfl (Nat.zero_le _) (Nat.zero_le _) ?_
  refine eM_must_y (B := B) (sz := sz) (t := t + 5) t5 m5 f5 (by rw [if_pos k5]; decide) (fun h6 g6 m6 => ?_)
  have t6 := jX_t_MG g6 t5
  have f6 : jh_I h6 11 0 4 = 0 := (g6.2.2.2 4 (by decide)).trans f5
  have b6 : jh_I h6 11 0 44 = nI β := (g6.2.2.2 44 (by decide)).trans b5
  refine jr_aload rfl rfl ?_
  refine jr_iload rfl rfl ?_
  refine jr_iload rfl rfl ?_
  refine jr_cv2 (mc' := 0) (ms' := 0) rfl jm_MD_numeral_n jm_MD_numeral_f rfl rfl rfl rfl rfl rfl rfl (Nat.zero_le _) (Nat.zero_le _) ?_
  refine eM_num_r (B := B) (sz := sz) (lo := 1) (hi := 99) (t := t + 6) t6 m6 f6 (by omega) (by omega) k6 r6 (fun h7 g7 => ?_)
  have e7 : ¬ jh_I h7 11 0 4 = 0 := by rw [g7.2.2.2.1]; exact (by decide)
  have m7 := jT_mc_ft g7 m6
  have b7 : jh_I h7 11 0 44 = nI β := (g7.2.2.1 44 (by decide) (by decide)).trans b6
  refine jr_iret rfl rfl (Nat.zero_le _) (Nat.zero_le _) ?_
  refine jr_iast (len := 24) rfl rfl rfl (by omega) ?_
  refine jr_aload rfl rfl ?_
  refine jr_getR rfl rfl rfl rfl (Or.inl rfl) ?_
  refine jr_iload rfl rfl ?_
  refine jr_aload rfl rfl ?_
  refine jr_lc rfl ?_
  refine jr_ic rfl ?_
  refine jr_ic rfl ?_
  refine jr_cv3 (mc' := 0) (ms' := 0) rfl jm_MD_after_n jm_MD_after_f rfl rfl rfl rfl rfl rfl rfl (Nat.zero_le _) (Nat.zero_le _) ?_
  show jx_W (jm_MD_after, _, _, _, _, _, _) _ 0 0 0 [some _, some _, none, some _, some _] [] _
  refine jr_aload rfl rfl ?_
  refine jr_aload rfl rfl ?_
  refine jr_lload rfl rfl ?_
  refine jr_cv1 (mc' := 0) (ms' := 0) rfl jm_MD_isWord_n jm_MD_isWord_f rfl rfl rfl rfl rfl rfl rfl (Nat.zero_le _) (Nat.zero_le _) ?_
  refine eM_isWord (B := B) (sz := sz) (t := t + 6) m7 (i := 15) (by decide) jT_W15 ?_
  refine jr_cv1 (mc' := 0) (ms' := 0) rfl jm_MD_must_n jm_MD_must_f rfl rfl rfl rfl rfl rfl rfl (Nat.zero_le _) (Nat.zero_le _) ?_
  refine eM_must_b e7 ?_
  refine jr_aload rfl rfl ?_
  refine jr_iload rfl rfl ?_
  refine jr_iload rfl rfl ?_
  refine jr_cv2 (mc' := 0) (ms' := 0) rfl jm_MD_numeral_n jm_MD_numeral_f rfl rfl rfl rfl rfl rfl rfl (Nat.zero_le _) (Nat.zero_le _) ?_
  refine eM_num_b (lo := 1) (hi := 31) e7 ?_
  refine jr_iret rfl rfl (Nat.zero_le _) (Nat.zero_le _) ?_
  refine jr_iast (len := 24) rfl rfl rfl (by omega) ?_
  refine jr_aload rfl rfl ?_
  refine jr_aload rfl rfl ?_
  refine jr_lc rfl ?_
  refine jr_cv1 (mc' := 0) (ms' := 0) rfl jm_MD_isWord_n jm_MD_isWord_f rfl rfl rfl rfl rfl rfl rfl (Nat.zero_le _) (Nat.zero_le _) ?_
  refine eM_isWord (B := B) (sz := sz) (t := t + 6) m7 (i := 16) (by decide) jT_W16 ?_
  refine jr_cv1 (mc' := 0) (ms' := 0) rfl jm_MD_must_n jm_MD_must_f rfl rfl rfl rfl rfl rfl rfl (Nat.zero_le _) (Nat.zero_le _) ?_
  refine eM_must_b e7 ?_
  refine jr_aload rfl rfl ?_
  refine jr_getR rfl rfl rfl rfl (Or.inl rfl) ?_
  refine jr_iload rfl rfl ?_
  refine jr_aload rfl rfl ?_
  refine jr_aload rfl rfl ?_
  refine jr_aload rfl rfl ?_
  refine jr_getR rfl rfl rfl rfl (Or.inl rfl) ?_
  refine jr_ic rfl ?_
  refine jr_aload rfl rfl ?_
  refine jr_getI rfl rfl ?_
  refine jr_imul rfl ?_
  refine jr_aload rfl rfl ?_
  refine jr_getR rfl rfl rfl rfl (Or.inl rfl) ?_
  refine jr_aload rfl rfl ?_
  refine jr_getI rfl rfl ?_
  refine jr_iald (len := 2) rfl rfl b7 (by omega) ?_
  rw [show jh_I (ju_I (ju_I (h7) 75 0 (upd (jh_I (h7) 75 0) ((12 * β + V 0 2)) (nI 1))) 76 0 (upd (jh_I (ju_I (h7) 75 0 (upd (jh_I (h7) 75 0) ((12 * β + V 0 2)) (nI 1))) 76 0) ((12 * β + V 0 2)) (nI 1))) 11 0 44 = nI β from b7, show jh_I (ju_I (ju_I (h7) 75 0 (upd (jh_I (h7) 75 0) ((12 * β + V 0 2)) (nI 1))) 76 0 (upd (jh_I (ju_I (h7) 75 0 (upd (jh_I (h7) 75 0) ((12 * β + V 0 2)) (nI 1))) 76 0) ((12 * β + V 0 2)) (nI 1))) 66 0 β = nI (V 0 0) from (congrFun ((g7.1 66 0 (by decide)).trans ((g6.1 66 0 (by decide)).trans ((g5.1 66 0 (by decide)).trans ((g4.1 66 0 (by decide)).trans ((g3.1 66 0 (by decide)).trans ((g2.1 66 0 (by decide)).trans (g1.1 66 0 (by decide)))))))) β).trans a1, show (6 : Int32) * nI β = nI (6 * β) from jn_mul rfl rfl]
  refine jr_cv3 (mc' := 0) (ms' := 0) rfl jm_MD_here_n jm_MD_here_f rfl rfl rfl rfl rfl rfl rfl (Nat.zero_le _) (Nat.zero_le _) ?_
  refine eM_here_m (B := B) (sz := sz) (t := t + 6) m7 hβ hWm (fun j hj => (congrFun ((congrFun (congrFun (congrArg (·.1) g7.2.1) 90) 0).trans ((g6.2.1 90 0 (by decide)).trans ((g5.2.1 90 0 (by decide)).trans ((g4.2.1 90 0 (by decide)).trans ((g3.2.1 90 0 (by decide)).trans ((g2.2.1 90 0 (by decide)).trans (g1.2.1 90 0 (by decide)))))))) _).trans ((a2 j hj).2.2)) (by omega) ?_
  refine jr_cv1 (mc' := 0) (ms' := 0) rfl jm_MD_told_n jm_MD_told_f rfl rfl rfl rfl rfl rfl rfl (Nat.zero_le _) (Nat.zero_le _) ?_
  refine eM_told_b e7 ?_
  refine jr_iast (len := 24) rfl rfl rfl (by omega) ?_
  refine jr_aload rfl rfl ?_
  refine jr_cv0 (mc' := 0) (ms' := 0) rfl jm_MD_isGood_n jm_MD_isGood_f rfl rfl rfl rfl rfl rfl rfl (Nat.zero_le _) (Nat.zero_le _) ?_
  show jx_W (jm_MD_isGood, _, _, _, _, _, _) _ 0 0 0 [some _] [] _
  refine jr_aload rfl rfl ?_
  refine jr_getI rfl rfl ?_
  refine jr_if_ne rfl (fun _ => ?_) (fun z => absurd z e7)
  refine jr_ic rfl ?_
  refine jr_zret rfl rfl rfl (Nat.zero_le _) (Nat.zero_le _) ?_
  refine jr_if_eq rfl (fun _ => ?_) (fun z => absurd (by decide) z)
  refine jr_aload rfl rfl ?_
  refine jr_getR rfl rfl rfl rfl (Or.inl rfl) ?_
  refine jr_iload rfl rfl ?_
  refine jr_aload rfl rfl ?_
  refine jr_lc rfl ?_
  refine jr_cv1 (mc' := 0) (ms' := 0) rfl jm_MD_has_n jm_MD_has_f rfl rfl rfl rfl rfl rfl rfl (Nat.zero_le _) (Nat.zero_le _) ?_
  refine eM_has_b e7 ?_
  refine jr_zast (len := 24) rfl rfl rfl (by omega) ?_
  refine jr_aload rfl rfl ?_
  refine jr_getR rfl rfl rfl rfl (Or.inl rfl) ?_
  refine jr_aload rfl rfl ?_
  refine jr_getI rfl rfl ?_
  refine jr_dup2 rfl ?_
  refine jr_iald (len := 2) rfl rfl b7 (by omega) ?_
  refine jr_ic rfl ?_
  refine jr_iadd rfl ?_
  rw [show jh_I (ju_I (ju_I (ju_I (ju_I (h7) 75 0 (upd (jh_I (h7) 75 0) ((12 * β + V 0 2)) (nI 1))) 76 0 (upd (jh_I (ju_I (h7) 75 0 (upd (jh_I (h7) 75 0) ((12 * β + V 0 2)) (nI 1))) 76 0) ((12 * β + V 0 2)) (nI 1))) 77 0 (upd (jh_I (ju_I (ju_I (h7) 75 0 (upd (jh_I (h7) 75 0) ((12 * β + V 0 2)) (nI 1))) 76 0 (upd (jh_I (ju_I (h7) 75 0 (upd (jh_I (h7) 75 0) ((12 * β + V 0 2)) (nI 1))) 76 0) ((12 * β + V 0 2)) (nI 1))) 77 0) ((12 * β + V 0 2)) (0))) 84 0 (upd (jh_I (ju_I (ju_I (ju_I (h7) 75 0 (upd (jh_I (h7) 75 0) ((12 * β + V 0 2)) (nI 1))) 76 0 (upd (jh_I (ju_I (h7) 75 0 (upd (jh_I (h7) 75 0) ((12 * β + V 0 2)) (nI 1))) 76 0) ((12 * β + V 0 2)) (nI 1))) 77 0 (upd (jh_I (ju_I (ju_I (h7) 75 0 (upd (jh_I (h7) 75 0) ((12 * β + V 0 2)) (nI 1))) 76 0 (upd (jh_I (ju_I (h7) 75 0 (upd (jh_I (h7) 75 0) ((12 * β + V 0 2)) (nI 1))) 76 0) ((12 * β + V 0 2)) (nI 1))) 77 0) ((12 * β + V 0 2)) (0))) 84 0) ((12 * β + V 0 2)) (0 &&& 1))) 68 0 β = nI (V 0 2) from (congrFun ((g7.1 68 0 (by decide)).trans ((g6.1 68 0 (by decide)).trans ((g5.1 68 0 (by decide)).trans ((g4.1 68 0 (by decide)).trans ((g3.1 68 0 (by decide)).trans ((g2.1 68 0 (by decide)).trans (g1.1 68 0 (by decide)))))))) β).trans c1, show nI (V 0 2) + 1 = nI (V 0 2 + 1) from jn_S _]
  refine jr_iast (len := 2) rfl rfl b7 (by omega) ?_
  refine jr_vret rfl rfl (Nat.zero_le _) (Nat.zero_le _) ?_
  exact k _ (jMF_I (a := 68) (w := 1) (jMF_I (a := 84) (w := 12) (jMF_I (a := 77) (w := 12) (jMF_I (a := 76) (w := 12) (jMF_I (a := 75) (w := 12) (jMF_ft (jMF_G (jMF_G (jMF_I (a := 74) (w := 12) (jMF_G (jMF_G (jMF_I (a := 73) (w := 12) (jMF_G (jMF_L (a := 92) (w := 12) (jMF_G (F) g1) (by decide) (by decide) (by omega) (by omega)) g2) (by decide) (by decide) (by omega) (by omega)) g3) g4) (by decide) (by decide) (by omega) (by omega)) g5) g6) g7) (by decide) (by decide) (by omega) (by omega)) (by decide) (by decide) (by omega) (by omega)) (by decide) (by decide) (by omega) (by omega)) (by decide) (by decide) (by omega) (by omega)) (by decide) (by decide) (by omega) (by omega)) g7.2.2.2.1 g7.2.2.2.2

set_option maxHeartbeats 800000 in
set_option maxRecDepth 100000 in
theorem eM_due_b12 {d : Nat} {h : jx_H} {Q : Option jx_V → jx_H → Prop} {h0 : jx_H} {B : Nat → Int32} {sz β t : Nat} {a b : Nat} {V : Nat → Nat → Nat} {W : Nat → Nat → List Nat} {D : Nat → Int32} (x : jML h B sz β t V W D) (F : jMF β h0 h) (hβ : β < 2) (hn : V 0 2 < 12) (h5 : V 0 1 ≤ 5) (h6 : V 0 0 ≤ 6) (hW : jnW (W 2) (V 0 2)) (hWp : jnW (W 1) (V 0 1)) (hWm : jnW (W 0) (V 0 0)) (k0 : jT_K B sz t = 3) (n0 : jnF (W 2) (jT_wd B sz (jT_p B sz t)) (V 0 2) 0 = none) (k1 : jT_K B sz (t + 1) = 113) (k2 : jT_K B sz (t + 2) = 3) (j2 : jnF (W 1) (jT_wd B sz (jT_p B sz (t + 2))) (V 0 1) 0 = some a) (k3 : jT_K B sz (t + 3) = 108) (k4 : jT_K B sz (t + 4) = 3) (j4 : jnF (W 1) (jT_wd B sz (jT_p B sz (t + 4))) (V 0 1) 0 = some b) (i4 : ¬ b = a) (k5 : jT_K B sz (t + 5) = 114) (k6 : jT_K B sz (t + 6) = 2) (r6 : 1 ≤ jT_v B sz (jT_p B sz (t + 6)) ∧ jT_v B sz (jT_p B sz (t + 6)) ≤ 99) (k7 : ¬ jT_K B sz (t + 7) = 115) (k : ∀ h', jMF β h0 h' → jh_I h' 11 0 4 = jX_kd (jT_K B sz (t + 7)) → jPl h' (jT_p B sz (t + 7)) → Q none h')  : jx_Ev jm_MD_readDue (d + 8) 0 0 false 1 [jv_r 11 0] h Q := by
  show jx_W (jm_MD_readDue, d + 8, 0, 0, false, 1, _) Q 0 0 0 [some (jv_r 11 0), none] [] _
  obtain ⟨⟨t0, m0, f0, b0, -, -, -, -⟩, ⟨⟨a1, a2⟩, ⟨p1, p2⟩, ⟨c1, c2⟩, -⟩, -⟩ := id x
  have xb := b0
  have hr : ∀ j, j < V 0 2 → jh_L h 92 0 (12 * β + j) = jT_key (W 2 j) := fun j hj => (c2 j hj).2
  have hj2 := (jnF_lt _ _ _ j2).2.1
  have hj4 := (jnF_lt _ _ _ j4).2.1
  refine jr_ic rfl ?_
  refine jr_aload rfl rfl ?_
  refine jr_getI rfl rfl ?_
  refine jr_imul rfl ?_
  refine jr_aload rfl rfl ?_
  refine jr_getR rfl rfl rfl rfl (Or.inl rfl) ?_
  refine jr_aload rfl rfl ?_
  refine jr_getI rfl rfl ?_
  refine jr_iald (len := 2) rfl rfl b0 (by omega) ?_
  refine jr_iadd rfl ?_
  rw [xb, c1, show (12 : Int32) * nI β + nI (V 0 2) = nI (12 * β + V 0 2) from jn_add (jn_mul rfl rfl) rfl]
  refine jr_ist1 rfl rfl ?_
  refine jr_aload rfl rfl ?_
  refine jr_getR rfl rfl rfl rfl (Or.inl rfl) ?_
  refine jr_iload rfl rfl ?_
  refine jr_aload rfl rfl ?_
  refine jr_aload rfl rfl ?_
  refine jr_aload rfl rfl ?_
  refine jr_getR rfl rfl rfl rfl (Or.inl rfl) ?_
  refine jr_ic rfl ?_
  refine jr_aload rfl rfl ?_
  refine jr_getI rfl rfl ?_
  refine jr_imul rfl ?_
  refine jr_aload rfl rfl ?_
  refine jr_getR rfl rfl rfl rfl (Or.inl rfl) ?_
  refine jr_aload rfl rfl ?_
  refine jr_getI rfl rfl ?_
  refine jr_iald (len := 2) rfl rfl b0 (by omega) ?_
  rw [xb, c1, show (12 : Int32) * nI β = nI (12 * β) from jn_mul rfl rfl]
  refine jr_cv3 (mc' := 0) (ms' := 0) rfl jm_MD_here_n jm_MD_here_f rfl rfl rfl rfl rfl rfl rfl (Nat.zero_le _) (Nat.zero_le _) ?_
  refine eM_here_d m0 hβ hW hr (by omega) ?_
  rw [if_pos k0, n0]
  refine jr_cv1 (mc' := 0) (ms' := 0) rfl jm_MD_fresh_n jm_MD_fresh_f rfl rfl rfl rfl rfl rfl rfl (Nat.zero_le _) (Nat.zero_le _) ?_
  refine eM_fresh_y (B := B) (sz := sz) (t := t) t0 m0 f0 k0 (fun h1 g1 m1 => ?_)
  have t1 := jX_t_MG g1 t0
  have f1 : jh_I h1 11 0 4 = 0 := (g1.2.2.2 4 (by decide)).trans f0
  have b1 : jh_I h1 11 0 44 = nI β := (g1.2.2.2 44 (by decide)).trans b0
  refine jr_last (len := 24) rfl rfl rfl (by omega) ?_
  refine jr_aload rfl rfl ?_
  refine jr_aload rfl rfl ?_
  refine jr_lc rfl ?_
  refine jr_cv1 (mc' := 0) (ms' := 0) rfl jm_MD_isWord_n jm_MD_isWord_f rfl rfl rfl rfl rfl rfl rfl (Nat.zero_le _) (Nat.zero_le _) ?_
  refine eM_isWord (B := B) (sz := sz) (t := t + 1) m1 (i := 13) (by decide) jT_W13 ?_
  refine jr_cv1 (mc' := 0) (ms' := 0) rfl jm_MD_must_n jm_MD_must_f rfl rfl rfl rfl rfl rfl rfl (Nat.zero_le _) (Nat.zero_le _) ?_
  refine eM_must_y (B := B) (sz := sz) (t := t + 1) t1 m1 f1 (by rw [if_pos k1]; decide) (fun h2 g2 m2 => ?_)
  have t2 := jX_t_MG g2 t1
  have f2 : jh_I h2 11 0 4 = 0 := (g2.2.2.2 4 (by decide)).trans f1
  have b2 : jh_I h2 11 0 44 = nI β := (g2.2.2.2 44 (by decide)).trans b1
  refine jr_aload rfl rfl ?_
  refine jr_getR rfl rfl rfl rfl (Or.inl rfl) ?_
  refine jr_iload rfl rfl ?_
  refine jr_aload rfl rfl ?_
  refine jr_aload rfl rfl ?_
  refine jr_cv0 (mc' := 0) (ms' := 0) rfl jm_MD_personHere_n jm_MD_personHere_f rfl rfl rfl rfl rfl rfl rfl (Nat.zero_le _) (Nat.zero_le _) ?_
  show jx_W (jm_MD_personHere, _, _, _, _, _, _) _ 0 0 0 [some _] [] _
  refine jr_aload rfl rfl ?_
  refine jr_aload rfl rfl ?_
  refine jr_getR rfl rfl rfl rfl (Or.inl rfl) ?_
  refine jr_ic rfl ?_
  refine jr_aload rfl rfl ?_
  refine jr_getI rfl rfl ?_
  refine jr_imul rfl ?_
  refine jr_aload rfl rfl ?_
  refine jr_getR rfl rfl rfl rfl (Or.inl rfl) ?_
  refine jr_aload rfl rfl ?_
  refine jr_getI rfl rfl ?_
  refine jr_iald (len := 2) rfl rfl (by first | exact b4 | exact b2) (by omega) ?_
  rw [show jh_I (h2) 11 0 44 = nI β from b2, show jh_I (h2) 67 0 β = nI (V 0 1) from (congrFun ((g2.1 67 0 (by decide)).trans (g1.1 67 0 (by decide))) β).trans p1, show (5 : Int32) * nI β = nI (5 * β) from jn_mul rfl rfl]
  refine jr_cv3 (mc' := 0) (ms' := 0) rfl jm_MD_here_n jm_MD_here_f rfl rfl rfl rfl rfl rfl rfl (Nat.zero_le _) (Nat.zero_le _) ?_
  refine eM_here_p (B := B) (sz := sz) (t := t + 2) m2 hβ hWp (fun j hj => (congrFun ((g2.2.1 91 0 (by decide)).trans (g1.2.1 91 0 (by decide))) _).trans ((p2 j hj).2)) (by omega) ?_
  refine jr_iret rfl rfl (Nat.zero_le _) (Nat.zero_le _) ?_
  rw [if_pos k2, j2]
  refine jr_cv1 (mc' := 0) (ms' := 0) rfl jm_MD_told_n jm_MD_told_f rfl rfl rfl rfl rfl rfl rfl (Nat.zero_le _) (Nat.zero_le _) ?_
  refine eM_told_y (j := a) (B := B) (sz := sz) (t := t + 2) t2 m2 f2 k2 (by omega) ?_
  refine jr_iast (len := 24) rfl rfl rfl (by omega) ?_
  refine jr_aload rfl rfl ?_
  refine jr_cv0 (mc' := 0) (ms' := 0) rfl jm_MD_isGood_n jm_MD_isGood_f rfl rfl rfl rfl rfl rfl rfl (Nat.zero_le _) (Nat.zero_le _) ?_
  show jx_W (jm_MD_isGood, _, _, _, _, _, _) _ 0 0 0 [some _] [] _
  refine jr_aload rfl rfl ?_
  refine jr_getI rfl rfl ?_
  refine jr_if_ne rfl (fun z => absurd f2 z) (fun _ => ?_)
  refine jr_ic rfl ?_
  refine jr_goto rfl ?_
  refine jr_zret rfl rfl rfl (Nat.zero_le _) (Nat.zero_le _) ?_
  refine jr_if_eq rfl (fun z => absurd z (by decide)) (fun _ => ?_)
  refine jr_aload rfl rfl ?_
  refine jr_cv0 (mc' := 0) (ms' := 0) rfl jm_MD_goOn_n jm_MD_goOn_f rfl rfl rfl rfl rfl rfl rfl (Nat.zero_le _) (Nat.zero_le _) ?_
  refine eM_goOn (B := B) (sz := sz) (t := t + 3) t2.1 t2.2.1 t2.2.2.1 m2.2.1 (fun h3 g3 m3 => ?_)
  have t3 := jX_t_MG g3 t2
  have f3 : jh_I h3 11 0 4 = 0 := (g3.2.2.2 4 (by decide)).trans f2
  have b3 : jh_I h3 11 0 44 = nI β := (g3.2.2.2 44 (by decide)).trans b2
  refine jr_aload rfl rfl ?_
  refine jr_aload rfl rfl ?_
  refine jr_lc rfl ?_
  refine jr_cv1 (mc' := 0) (ms' := 0) rfl jm_MD_isWord_n jm_MD_isWord_f rfl rfl rfl rfl rfl rfl rfl (Nat.zero_le _) (Nat.zero_le _) ?_
  refine eM_isWord (B := B) (sz := sz) (t := t + 3) m3 (i := 8) (by decide) jT_W8 ?_
  refine jr_cv1 (mc' := 0) (ms' := 0) rfl jm_MD_must_n jm_MD_must_f rfl rfl rfl rfl rfl rfl rfl (Nat.zero_le _) (Nat.zero_le _) ?_
  refine eM_must_y (B := B) (sz := sz) (t := t + 3) t3 m3 f3 (by rw [if_pos k3]; decide) (fun h4 g4 m4 => ?_)
  have t4 := jX_t_MG g4 t3
  have f4 : jh_I h4 11 0 4 = 0 := (g4.2.2.2 4 (by decide)).trans f3
  have b4 : jh_I h4 11 0 44 = nI β := (g4.2.2.2 44 (by decide)).trans b3
  refine jr_aload rfl rfl ?_
  refine jr_getR rfl rfl rfl rfl (Or.inl rfl) ?_
  refine jr_iload rfl rfl ?_
  refine jr_aload rfl rfl ?_
  refine jr_aload rfl rfl ?_
  refine jr_cv0 (mc' := 0) (ms' := 0) rfl jm_MD_personHere_n jm_MD_personHere_f rfl rfl rfl rfl rfl rfl rfl (Nat.zero_le _) (Nat.zero_le _) ?_
  show jx_W (jm_MD_personHere, _, _, _, _, _, _) _ 0 0 0 [some _] [] _
  refine jr_aload rfl rfl ?_
  refine jr_aload rfl rfl ?_
  refine jr_getR rfl rfl rfl rfl (Or.inl rfl) ?_
  refine jr_ic rfl ?_
  refine jr_aload rfl rfl ?_
  refine jr_getI rfl rfl ?_
  refine jr_imul rfl ?_
  refine jr_aload rfl rfl ?_
  refine jr_getR rfl rfl rfl rfl (Or.inl rfl) ?_
  refine jr_aload rfl rfl ?_
  refine jr_getI rfl rfl ?_
  refine jr_iald (len := 2) rfl rfl (by first | exact b4 | exact b2) (by omega) ?_
  rw [show jh_I (h4) 11 0 44 = nI β from b4, show jh_I (h4) 67 0 β = nI (V 0 1) from (congrFun ((g4.1 67 0 (by decide)).trans ((g3.1 67 0 (by decide)).trans ((g2.1 67 0 (by decide)).trans (g1.1 67 0 (by decide))))) β).trans p1, show (5 : Int32) * nI β = nI (5 * β) from jn_mul rfl rfl]
  refine jr_cv3 (mc' := 0) (ms' := 0) rfl jm_MD_here_n jm_MD_here_f rfl rfl rfl rfl rfl rfl rfl (Nat.zero_le _) (Nat.zero_le _) ?_
  refine eM_here_p (B := B) (sz := sz) (t := t + 4) m4 hβ hWp (fun j hj => (congrFun ((g4.2.1 91 0 (by decide)).trans ((g3.2.1 91 0 (by decide)).trans ((g2.2.1 91 0 (by decide)).trans (g1.2.1 91 0 (by decide))))) _).trans ((p2 j hj).2)) (by omega) ?_
  refine jr_iret rfl rfl (Nat.zero_le _) (Nat.zero_le _) ?_
  rw [if_pos k4, j4]
  refine jr_cv1 (mc' := 0) (ms' := 0) rfl jm_MD_told_n jm_MD_told_f rfl rfl rfl rfl rfl rfl rfl (Nat.zero_le _) (Nat.zero_le _) ?_
  refine eM_told_y (j := b) (B := B) (sz := sz) (t := t + 4) t4 m4 f4 k4 (by omega) ?_
  refine jr_iast (len := 24) rfl rfl rfl (by omega) ?_
  refine jr_aload rfl rfl ?_
  refine jr_cv0 (mc' := 0) (ms' := 0) rfl jm_MD_isGood_n jm_MD_isGood_f rfl rfl rfl rfl rfl rfl rfl (Nat.zero_le _) (Nat.zero_le _) ?_
  show jx_W (jm_MD_isGood, _, _, _, _, _, _) _ 0 0 0 [some _] [] _
  refine jr_aload rfl rfl ?_
  refine jr_getI rfl rfl ?_
  refine jr_if_ne rfl (fun z => absurd f4 z) (fun _ => ?_)
  refine jr_ic rfl ?_
  refine jr_goto rfl ?_
  refine jr_zret rfl rfl rfl (Nat.zero_le _) (Nat.zero_le _) ?_
  refine jr_if_eq rfl (fun z => absurd z (by decide)) (fun _ => ?_)
  refine jr_aload rfl rfl ?_
  refine jr_getR rfl rfl rfl rfl (Or.inl rfl) ?_
  refine jr_iload rfl rfl ?_
  refine jr_iald (len := 24) rfl rfl rfl (by omega) ?_
  rw [jg_Iuu]
  refine jr_aload rfl rfl ?_
  refine jr_getR rfl rfl rfl rfl (Or.inl rfl) ?_
  refine jr_iload rfl rfl ?_
  refine jr_iald (len := 24) rfl rfl rfl (by omega) ?_
  rw [show jh_I (ju_I (h4) 74 0 (upd (jh_I (h4) 74 0) ((12 * β + V 0 2)) (nI b))) 73 0 (12 * β + V 0 2) = nI a from (congrFun ((g4.1 73 0 (by decide)).trans ((g3.1 73 0 (by decide)).trans (congrArg (fun F => upd F ((12 * β + V 0 2)) (nI a)) ((g2.1 73 0 (by decide)).trans (g1.1 73 0 (by decide)))))) (12 * β + V 0 2)).trans (jg_us _ _ _)]
  refine jr_icmp_ne rfl (fun _ => ?_) (fun z => absurd z (fun y => i4 (jn_eq (show nI b = nI a from y) (by omega) (by omega))))
  refine jr_aload rfl rfl ?_
  refine jr_cv0 (mc' := 0) (ms' := 0) rfl jm_MD_isGood_n jm_MD_isGood_f rfl rfl rfl rfl rfl rfl rfl (Nat.zero_le _) (Nat.zero_le _) ?_
  show jx_W (jm_MD_isGood, _, _, _, _, _, _) _ 0 0 0 [some _] [] _
  refine jr_aload rfl rfl ?_
  refine jr_getI rfl rfl ?_
  refine jr_if_ne rfl (fun z => absurd f4 z) (fun _ => ?_)
  refine jr_ic rfl ?_
  refine jr_goto rfl ?_
  refine jr_zret rfl rfl rfl (Nat.zero_le _) (Nat.zero_le _) ?_
  refine jr_if_eq rfl (fun z => absurd z (by decide)) (fun _ => ?_)
  refine jr_aload rfl rfl ?_
  refine jr_cv0 (mc' := 0) (ms' := 0) rfl jm_MD_goOn_n jm_MD_goOn_f rfl rfl rfl rfl rfl rfl rfl (Nat.zero_le _) (Nat.zero_le _) ?_
  refine eM_goOn (B := B) (sz := sz) (t := t + 5) t4.1 t4.2.1 t4.2.2.1 m4.2.1 (fun h5 g5 m5 => ?_)
  have t5 := jX_t_MG g5 t4
  have f5 : jh_I h5 11 0 4 = 0 := (g5.2.2.2 4 (by decide)).trans f4
  have b5 : jh_I h5 11 0 44 = nI β := (g5.2.2.2 44 (by decide)).trans b4
  refine jr_aload rfl rfl ?_
  refine jr_getR rfl rfl rfl rfl (Or.inl rfl) ?_
  refine jr_iload rfl rfl ?_
  refine jr_aload rfl rfl ?_
  refine jr_lc rfl ?_
  refine jr_ic rfl ?_
  refine jr_ic rfl ?_
  refine jr_cv3 (mc' := 0) (ms' := 0) rfl jm_MD_after_n jm_MD_after_f rfl rfl rfl rfl rfl rfl rfl (Nat.zero_le _) (Nat.zero_le _) ?_
  show jx_W (jm_MD_after, _, _, _, _, _, _) _ 0 0 0 [some _, some _, none, some _, some _] [] _
  refine jr_aload rfl rfl ?_
  refine jr_aload rfl rfl ?_
  refine jr_lload rfl rfl ?_
  refine jr_cv1 (mc' := 0) (ms' := 0) rfl jm_MD_isWord_n jm_MD_isWord_f rfl rfl rfl rfl rfl rfl rfl (Nat.zero_le _) (Nat.zero_le _) ?_
  refine eM_isWord (B := B) (sz := sz) (t := t + 5) m5 (i := 14) (by decide) jT_W14 ?_
  refine jr_cv1 (mc' := 0) (ms' := 0) rfl jm_MD_must_n jm_MD_must_f rfl rfl rfl rfl rfl rfl rfl (Nat.zero_le _) (Nat.zero_le _) ?_
  refine eM_must_y (B := B) (sz := sz) (t := t + 5) t5 m5 f5 (by rw [if_pos k5]; decide) (fun h6 g6 m6 => ?_)
  have t6 := jX_t_MG g6 t5
  have f6 : jh_I h6 11 0 4 = 0 := (g6.2.2.2 4 (by decide)).trans f5
  have b6 : jh_I h6 11 0 44 = nI β := (g6.2.2.2 44 (by decide)).trans b5
  refine jr_aload rfl rfl ?_
  refine jr_iload rfl rfl ?_
  refine jr_iload rfl rfl ?_
  refine jr_cv2 (mc' := 0) (ms' := 0) rfl jm_MD_numeral_n jm_MD_numeral_f rfl rfl rfl rfl rfl rfl rfl (Nat.zero_le _) (Nat.zero_le _) ?_
  refine eM_num_y (B := B) (sz := sz) (lo := 1) (hi := 99) (t := t + 6) t6 m6 f6 (by omega) (by omega) k6 r6.1 r6.2 (fun h7 g7 m7 => ?_)
  have t7 := jX_t_MG g7 t6
  have f7 : jh_I h7 11 0 4 = 0 := (g7.2.2.2 4 (by decide)).trans f6
  have b7 : jh_I h7 11 0 44 = nI β := (g7.2.2.2 44 (by decide)).trans b6
  refine jr_iret rfl rfl (Nat.zero_le _) (Nat.zero_le _) ?_
  refine jr_iast (len := 24) rfl rfl rfl (by omega) ?_
  refine jr_aload rfl rfl ?_
  refine jr_getR rfl rfl rfl rfl (Or.inl rfl) ?_
  refine jr_iload rfl rfl ?_
  refine jr_aload rfl rfl ?_
  refine jr_lc rfl ?_
  refine jr_ic rfl ?_
  refine jr_ic rfl ?_
  refine jr_cv3 (mc' := 0) (ms' := 0) rfl jm_MD_after_n jm_MD_after_f rfl rfl rfl rfl rfl rfl rfl (Nat.zero_le _) (Nat.zero_le _) ?_
  show jx_W (jm_MD_after, _, _, _, _, _, _) _ 0 0 0 [some _, some _, none, some _, some _] [] _
  refine jr_aload rfl rfl ?_
  refine jr_aload rfl rfl ?_
  refine jr_lload rfl rfl ?_
  refine jr_cv1 (mc' := 0) (ms' := 0) rfl jm_MD_isWord_n jm_MD_isWord_f rfl rfl rfl rfl rfl rfl rfl (Nat.zero_le _) (Nat.zero_le _) ?_
  refine eM_isWord (B := B) (sz := sz) (t := t + 7) m7 (i := 15) (by decide) jT_W15 ?_
  refine jr_cv1 (mc' := 0) (ms' := 0) rfl jm_MD_must_n jm_MD_must_f rfl rfl rfl rfl rfl rfl rfl (Nat.zero_le _) (Nat.zero_le _) ?_
  refine eM_must_n (B := B) (sz := sz) (t := t + 7) t7 m7 f7 (if_neg k7) (fun h8 g8 => ?_)
  have e8 : ¬ jh_I h8 11 0 4 = 0 := by rw [g8.2.2.2.1]; exact jX_kd_n _
  have m8 := jT_mc_ft g8 m7
  have b8 : jh_I h8 11 0 44 = nI β := (g8.2.2.1 44 (by decide) (by decide)).trans b7
  refine jr_aload rfl rfl ?_
  refine jr_iload rfl rfl ?_
  refine jr_iload rfl rfl ?_
  refine jr_cv2 (mc' := 0) (ms' := 0) rfl jm_MD_numeral_n jm_MD_numeral_f rfl rfl rfl rfl rfl rfl rfl (Nat.zero_le _) (Nat.zero_le _) ?_
  refine eM_num_b (lo := 1) (hi := 31) e8 ?_
  refine jr_iret rfl rfl (Nat.zero_le _) (Nat.zero_le _) ?_
  refine jr_iast (len := 24) rfl rfl rfl (by omega) ?_
  refine jr_aload rfl rfl ?_
  refine jr_aload rfl rfl ?_
  refine jr_lc rfl ?_
  refine jr_cv1 (mc' := 0) (ms' := 0) rfl jm_MD_isWord_n jm_MD_isWord_f rfl rfl rfl rfl rfl rfl rfl (Nat.zero_le _) (Nat.zero_le _) ?_
  refine eM_isWord (B := B) (sz := sz) (t := t + 7) m8 (i := 16) (by decide) jT_W16 ?_
  refine jr_cv1 (mc' := 0) (ms' := 0) rfl jm_MD_must_n jm_MD_must_f rfl rfl rfl rfl rfl rfl rfl (Nat.zero_le _) (Nat.zero_le _) ?_
  refine eM_must_b e8 ?_
  refine jr_aload rfl rfl ?_
  refine jr_getR rfl rfl rfl rfl (Or.inl rfl) ?_
  refine jr_iload rfl rfl ?_
  refine jr_aload rfl rfl ?_
  refine jr_aload rfl rfl ?_
  refine jr_aload rfl rfl ?_
  refine jr_getR rfl rfl rfl rfl (Or.inl rfl) ?_
  refine jr_ic rfl ?_
  refine jr_aload rfl rfl ?_
  refine jr_getI rfl rfl ?_
  refine jr_imul rfl ?_
  refine jr_aload rfl rfl ?_
  refine jr_getR rfl rfl rfl rfl (Or.inl rfl) ?_
  refine jr_aload rfl rfl ?_
  refine jr_getI rfl rfl ?_
  refine jr_iald (len := 2) rfl rfl b8 (by omega) ?_
  rw [show jh_I (ju_I (h8) 76 0 (upd (jh_I (h8) 76 0) ((12 * β + V 0 2)) (nI 1))) 11 0 44 = nI β from b8, show jh_I (ju_I (h8) 76 0 (upd (jh_I (h8) 76 0) ((12 * β + V 0 2)) (nI 1))) 66 0 β = nI (V 0 0) from (congrFun ((g8.1 66 0 (by decide)).trans ((g7.1 66 0 (by decide)).trans ((g6.1 66 0 (by decide)).trans ((g5.1 66 0 (by decide)).trans ((g4.1 66 0 (by decide)).trans ((g3.1 66 0 (by decide)).trans ((g2.1 66 0 (by decide)).trans (g1.1 66 0 (by decide))))))))) β).trans a1, show (6 : Int32) * nI β = nI (6 * β) from jn_mul rfl rfl]
  refine jr_cv3 (mc' := 0) (ms' := 0) rfl jm_MD_here_n jm_MD_here_f rfl rfl rfl rfl rfl rfl rfl (Nat.zero_le _) (Nat.zero_le _) ?_
  refine eM_here_m (B := B) (sz := sz) (t := t + 7) m8 hβ hWm (fun j hj => (congrFun ((congrFun (congrFun (congrArg (·.1) g8.2.1) 90) 0).trans ((g7.2.1 90 0 (by decide)).trans ((g6.2.1 90 0 (by decide)).trans ((g5.2.1 90 0 (by decide)).trans ((g4.2.1 90 0 (by decide)).trans ((g3.2.1 90 0 (by decide)).trans ((g2.2.1 90 0 (by decide)).trans (g1.2.1 90 0 (by decide))))))))) _).trans ((a2 j hj).2.2)) (by omega) ?_
  refine jr_cv1 (mc' := 0) (ms' := 0) rfl jm_MD_told_n jm_MD_told_f rfl rfl rfl rfl rfl rfl rfl (Nat.zero_le _) (Nat.zero_le _) ?_
  refine eM_told_b e8 ?_
  refine jr_iast (len := 24) rfl rfl rfl (by omega) ?_
  refine jr_aload rfl rfl ?_
  refine jr_cv0 (mc' := 0) (ms' := 0) rfl jm_MD_isGood_n jm_MD_isGood_f rfl rfl rfl rfl rfl rfl rfl (Nat.zero_le _) (Nat.zero_le _) ?_
  show jx_W (jm_MD_isGood, _, _, _, _, _, _) _ 0 0 0 [some _] [] _
  refine jr_aload rfl rfl ?_
  refine jr_getI rfl rfl ?_
  refine jr_if_ne rfl (fun _ => ?_) (fun z => absurd z e8)
  refine jr_ic rfl ?_
  refine jr_zret rfl rfl rfl (Nat.zero_le _) (Nat.zero_le _) ?_
  refine jr_if_eq rfl (fun _ => ?_) (fun z => absurd (by decide) z)
  refine jr_aload rfl rfl ?_
  refine jr_getR rfl rfl rfl rfl (Or.inl rfl) ?_
  refine jr_iload rfl rfl ?_
  refine jr_aload rfl rfl ?_
  refine jr_lc rfl ?_
  refine jr_cv1 (mc' := 0) (ms' := 0) rfl jm_MD_has_n jm_MD_has_f rfl rfl rfl rfl rfl rfl rfl (Nat.zero_le _) (Nat.zero_le _) ?_
  refine eM_has_b e8 ?_
  refine jr_zast (len := 24) rfl rfl rfl (by omega) ?_
  refine jr_aload rfl rfl ?_
  refine jr_getR rfl rfl rfl rfl (Or.inl rfl) ?_
  refine jr_aload rfl rfl ?_
  refine jr_getI rfl rfl ?_
  refine jr_dup2 rfl ?_
  refine jr_iald (len := 2) rfl rfl b8 (by omega) ?_
  refine jr_ic rfl ?_
  refine jr_iadd rfl ?_
  rw [show jh_I (ju_I (ju_I (ju_I (h8) 76 0 (upd (jh_I (h8) 76 0) ((12 * β + V 0 2)) (nI 1))) 77 0 (upd (jh_I (ju_I (h8) 76 0 (upd (jh_I (h8) 76 0) ((12 * β + V 0 2)) (nI 1))) 77 0) ((12 * β + V 0 2)) (0))) 84 0 (upd (jh_I (ju_I (ju_I (h8) 76 0 (upd (jh_I (h8) 76 0) ((12 * β + V 0 2)) (nI 1))) 77 0 (upd (jh_I (ju_I (h8) 76 0 (upd (jh_I (h8) 76 0) ((12 * β + V 0 2)) (nI 1))) 77 0) ((12 * β + V 0 2)) (0))) 84 0) ((12 * β + V 0 2)) (0 &&& 1))) 68 0 β = nI (V 0 2) from (congrFun ((g8.1 68 0 (by decide)).trans ((g7.1 68 0 (by decide)).trans ((g6.1 68 0 (by decide)).trans ((g5.1 68 0 (by decide)).trans ((g4.1 68 0 (by decide)).trans ((g3.1 68 0 (by decide)).trans ((g2.1 68 0 (by decide)).trans (g1.1 68 0 (by decide))))))))) β).trans c1, show nI (V 0 2) + 1 = nI (V 0 2 + 1) from jn_S _]
  refine jr_iast (len := 2) rfl rfl b8 (by omega) ?_
  refine jr_vret rfl rfl (Nat.zero_le _) (Nat.zero_le _) ?_
  exact k _ (jMF_I (a := 68) (w := 1) (jMF_I (a := 84) (w := 12) (jMF_I (a := 77) (w := 12) (jMF_I (a := 76) (w := 12) (jMF_ft (jMF_I (a := 75) (w := 12) (jMF_G (jMF_G (jMF_G (jMF_I (a := 74) (w := 12) (jMF_G (jMF_G (jMF_I (a := 73) (w := 12) (jMF_G (jMF_L (a := 92) (w := 12) (jMF_G (F) g1) (by decide) (by decide) (by omega) (by omega)) g2) (by decide) (by decide) (by omega) (by omega)) g3) g4) (by decide) (by decide) (by omega) (by omega)) g5) g6) g7) (by decide) (by decide) (by omega) (by omega)) g8) (by decide) (by decide) (by omega) (by omega)) (by decide) (by decide) (by omega) (by omega)) (by decide) (by decide) (by omega) (by omega)) (by decide) (by decide) (by omega) (by omega)) g8.2.2.2.1 g8.2.2.2.2

set_option maxHeartbeats 800000 in
set_option maxRecDepth 100000 in
theorem eM_due_b13 {d : Nat} {h : jx_H} {Q : Option jx_V → jx_H → Prop} {h0 : jx_H} {B : Nat → Int32} {sz β t : Nat} {a b : Nat} {V : Nat → Nat → Nat} {W : Nat → Nat → List Nat} {D : Nat → Int32} (x : jML h B sz β t V W D) (F : jMF β h0 h) (hβ : β < 2) (hn : V 0 2 < 12) (h5 : V 0 1 ≤ 5) (h6 : V 0 0 ≤ 6) (hW : jnW (W 2) (V 0 2)) (hWp : jnW (W 1) (V 0 1)) (hWm : jnW (W 0) (V 0 0)) (k0 : jT_K B sz t = 3) (n0 : jnF (W 2) (jT_wd B sz (jT_p B sz t)) (V 0 2) 0 = none) (k1 : jT_K B sz (t + 1) = 113) (k2 : jT_K B sz (t + 2) = 3) (j2 : jnF (W 1) (jT_wd B sz (jT_p B sz (t + 2))) (V 0 1) 0 = some a) (k3 : jT_K B sz (t + 3) = 108) (k4 : jT_K B sz (t + 4) = 3) (j4 : jnF (W 1) (jT_wd B sz (jT_p B sz (t + 4))) (V 0 1) 0 = some b) (i4 : ¬ b = a) (k5 : jT_K B sz (t + 5) = 114) (k6 : jT_K B sz (t + 6) = 2) (r6 : 1 ≤ jT_v B sz (jT_p B sz (t + 6)) ∧ jT_v B sz (jT_p B sz (t + 6)) ≤ 99) (k7 : jT_K B sz (t + 7) = 115) (k8 : ¬ jT_K B sz (t + 8) = 2) (k : ∀ h', jMF β h0 h' → jh_I h' 11 0 4 = jX_kd (jT_K B sz (t + 8)) → jPl h' (jT_p B sz (t + 8)) → Q none h')  : jx_Ev jm_MD_readDue (d + 8) 0 0 false 1 [jv_r 11 0] h Q := by
  show jx_W (jm_MD_readDue, d + 8, 0, 0, false, 1, _) Q 0 0 0 [some (jv_r 11 0), none] [] _
  obtain ⟨⟨t0, m0, f0, b0, -, -, -, -⟩, ⟨⟨a1, a2⟩, ⟨p1, p2⟩, ⟨c1, c2⟩, -⟩, -⟩ := id x
  have xb := b0
  have hr : ∀ j, j < V 0 2 → jh_L h 92 0 (12 * β + j) = jT_key (W 2 j) := fun j hj => (c2 j hj).2
  have hj2 := (jnF_lt _ _ _ j2).2.1
  have hj4 := (jnF_lt _ _ _ j4).2.1
  refine jr_ic rfl ?_
  refine jr_aload rfl rfl ?_
  refine jr_getI rfl rfl ?_
  refine jr_imul rfl ?_
  refine jr_aload rfl rfl ?_
  refine jr_getR rfl rfl rfl rfl (Or.inl rfl) ?_
  refine jr_aload rfl rfl ?_
  refine jr_getI rfl rfl ?_
  refine jr_iald (len := 2) rfl rfl b0 (by omega) ?_
  refine jr_iadd rfl ?_
  rw [xb, c1, show (12 : Int32) * nI β + nI (V 0 2) = nI (12 * β + V 0 2) from jn_add (jn_mul rfl rfl) rfl]
  refine jr_ist1 rfl rfl ?_
  refine jr_aload rfl rfl ?_
  refine jr_getR rfl rfl rfl rfl (Or.inl rfl) ?_
  refine jr_iload rfl rfl ?_
  refine jr_aload rfl rfl ?_
  refine jr_aload rfl rfl ?_
  refine jr_aload rfl rfl ?_
  refine jr_getR rfl rfl rfl rfl (Or.inl rfl) ?_
  refine jr_ic rfl ?_
  refine jr_aload rfl rfl ?_
  refine jr_getI rfl rfl ?_
  refine jr_imul rfl ?_
  refine jr_aload rfl rfl ?_
  refine jr_getR rfl rfl rfl rfl (Or.inl rfl) ?_
  refine jr_aload rfl rfl ?_
  refine jr_getI rfl rfl ?_
  refine jr_iald (len := 2) rfl rfl b0 (by omega) ?_
  rw [xb, c1, show (12 : Int32) * nI β = nI (12 * β) from jn_mul rfl rfl]
  refine jr_cv3 (mc' := 0) (ms' := 0) rfl jm_MD_here_n jm_MD_here_f rfl rfl rfl rfl rfl rfl rfl (Nat.zero_le _) (Nat.zero_le _) ?_
  refine eM_here_d m0 hβ hW hr (by omega) ?_
  rw [if_pos k0, n0]
  refine jr_cv1 (mc' := 0) (ms' := 0) rfl jm_MD_fresh_n jm_MD_fresh_f rfl rfl rfl rfl rfl rfl rfl (Nat.zero_le _) (Nat.zero_le _) ?_
  refine eM_fresh_y (B := B) (sz := sz) (t := t) t0 m0 f0 k0 (fun h1 g1 m1 => ?_)
  have t1 := jX_t_MG g1 t0
  have f1 : jh_I h1 11 0 4 = 0 := (g1.2.2.2 4 (by decide)).trans f0
  have b1 : jh_I h1 11 0 44 = nI β := (g1.2.2.2 44 (by decide)).trans b0
  refine jr_last (len := 24) rfl rfl rfl (by omega) ?_
  refine jr_aload rfl rfl ?_
  refine jr_aload rfl rfl ?_
  refine jr_lc rfl ?_
  refine jr_cv1 (mc' := 0) (ms' := 0) rfl jm_MD_isWord_n jm_MD_isWord_f rfl rfl rfl rfl rfl rfl rfl (Nat.zero_le _) (Nat.zero_le _) ?_
  refine eM_isWord (B := B) (sz := sz) (t := t + 1) m1 (i := 13) (by decide) jT_W13 ?_
  refine jr_cv1 (mc' := 0) (ms' := 0) rfl jm_MD_must_n jm_MD_must_f rfl rfl rfl rfl rfl rfl rfl (Nat.zero_le _) (Nat.zero_le _) ?_
  refine eM_must_y (B := B) (sz := sz) (t := t + 1) t1 m1 f1 (by rw [if_pos k1]; decide) (fun h2 g2 m2 => ?_)
  have t2 := jX_t_MG g2 t1
  have f2 : jh_I h2 11 0 4 = 0 := (g2.2.2.2 4 (by decide)).trans f1
  have b2 : jh_I h2 11 0 44 = nI β := (g2.2.2.2 44 (by decide)).trans b1
  refine jr_aload rfl rfl ?_
  refine jr_getR rfl rfl rfl rfl (Or.inl rfl) ?_
  refine jr_iload rfl rfl ?_
  refine jr_aload rfl rfl ?_
  refine jr_aload rfl rfl ?_
  refine jr_cv0 (mc' := 0) (ms' := 0) rfl jm_MD_personHere_n jm_MD_personHere_f rfl rfl rfl rfl rfl rfl rfl (Nat.zero_le _) (Nat.zero_le _) ?_
  show jx_W (jm_MD_personHere, _, _, _, _, _, _) _ 0 0 0 [some _] [] _
  refine jr_aload rfl rfl ?_
  refine jr_aload rfl rfl ?_
  refine jr_getR rfl rfl rfl rfl (Or.inl rfl) ?_
  refine jr_ic rfl ?_
  refine jr_aload rfl rfl ?_
  refine jr_getI rfl rfl ?_
  refine jr_imul rfl ?_
  refine jr_aload rfl rfl ?_
  refine jr_getR rfl rfl rfl rfl (Or.inl rfl) ?_
  refine jr_aload rfl rfl ?_
  refine jr_getI rfl rfl ?_
  refine jr_iald (len := 2) rfl rfl (by first | exact b4 | exact b2) (by omega) ?_
  rw [show jh_I (h2) 11 0 44 = nI β from b2, show jh_I (h2) 67 0 β = nI (V 0 1) from (congrFun ((g2.1 67 0 (by decide)).trans (g1.1 67 0 (by decide))) β).trans p1, show (5 : Int32) * nI β = nI (5 * β) from jn_mul rfl rfl]
  refine jr_cv3 (mc' := 0) (ms' := 0) rfl jm_MD_here_n jm_MD_here_f rfl rfl rfl rfl rfl rfl rfl (Nat.zero_le _) (Nat.zero_le _) ?_
  refine eM_here_p (B := B) (sz := sz) (t := t + 2) m2 hβ hWp (fun j hj => (congrFun ((g2.2.1 91 0 (by decide)).trans (g1.2.1 91 0 (by decide))) _).trans ((p2 j hj).2)) (by omega) ?_
  refine jr_iret rfl rfl (Nat.zero_le _) (Nat.zero_le _) ?_
  rw [if_pos k2, j2]
  refine jr_cv1 (mc' := 0) (ms' := 0) rfl jm_MD_told_n jm_MD_told_f rfl rfl rfl rfl rfl rfl rfl (Nat.zero_le _) (Nat.zero_le _) ?_
  refine eM_told_y (j := a) (B := B) (sz := sz) (t := t + 2) t2 m2 f2 k2 (by omega) ?_
  refine jr_iast (len := 24) rfl rfl rfl (by omega) ?_
  refine jr_aload rfl rfl ?_
  refine jr_cv0 (mc' := 0) (ms' := 0) rfl jm_MD_isGood_n jm_MD_isGood_f rfl rfl rfl rfl rfl rfl rfl (Nat.zero_le _) (Nat.zero_le _) ?_
  show jx_W (jm_MD_isGood, _, _, _, _, _, _) _ 0 0 0 [some _] [] _
  refine jr_aload rfl rfl ?_
  refine jr_getI rfl rfl ?_
  refine jr_if_ne rfl (fun z => absurd f2 z) (fun _ => ?_)
  refine jr_ic rfl ?_
  refine jr_goto rfl ?_
  refine jr_zret rfl rfl rfl (Nat.zero_le _) (Nat.zero_le _) ?_
  refine jr_if_eq rfl (fun z => absurd z (by decide)) (fun _ => ?_)
  refine jr_aload rfl rfl ?_
  refine jr_cv0 (mc' := 0) (ms' := 0) rfl jm_MD_goOn_n jm_MD_goOn_f rfl rfl rfl rfl rfl rfl rfl (Nat.zero_le _) (Nat.zero_le _) ?_
  refine eM_goOn (B := B) (sz := sz) (t := t + 3) t2.1 t2.2.1 t2.2.2.1 m2.2.1 (fun h3 g3 m3 => ?_)
  have t3 := jX_t_MG g3 t2
  have f3 : jh_I h3 11 0 4 = 0 := (g3.2.2.2 4 (by decide)).trans f2
  have b3 : jh_I h3 11 0 44 = nI β := (g3.2.2.2 44 (by decide)).trans b2
  refine jr_aload rfl rfl ?_
  refine jr_aload rfl rfl ?_
  refine jr_lc rfl ?_
  refine jr_cv1 (mc' := 0) (ms' := 0) rfl jm_MD_isWord_n jm_MD_isWord_f rfl rfl rfl rfl rfl rfl rfl (Nat.zero_le _) (Nat.zero_le _) ?_
  refine eM_isWord (B := B) (sz := sz) (t := t + 3) m3 (i := 8) (by decide) jT_W8 ?_
  refine jr_cv1 (mc' := 0) (ms' := 0) rfl jm_MD_must_n jm_MD_must_f rfl rfl rfl rfl rfl rfl rfl (Nat.zero_le _) (Nat.zero_le _) ?_
  refine eM_must_y (B := B) (sz := sz) (t := t + 3) t3 m3 f3 (by rw [if_pos k3]; decide) (fun h4 g4 m4 => ?_)
  have t4 := jX_t_MG g4 t3
  have f4 : jh_I h4 11 0 4 = 0 := (g4.2.2.2 4 (by decide)).trans f3
  have b4 : jh_I h4 11 0 44 = nI β := (g4.2.2.2 44 (by decide)).trans b3
  refine jr_aload rfl rfl ?_
  refine jr_getR rfl rfl rfl rfl (Or.inl rfl) ?_
  refine jr_iload rfl rfl ?_
  refine jr_aload rfl rfl ?_
  refine jr_aload rfl rfl ?_
  refine jr_cv0 (mc' := 0) (ms' := 0) rfl jm_MD_personHere_n jm_MD_personHere_f rfl rfl rfl rfl rfl rfl rfl (Nat.zero_le _) (Nat.zero_le _) ?_
  show jx_W (jm_MD_personHere, _, _, _, _, _, _) _ 0 0 0 [some _] [] _
  refine jr_aload rfl rfl ?_
  refine jr_aload rfl rfl ?_
  refine jr_getR rfl rfl rfl rfl (Or.inl rfl) ?_
  refine jr_ic rfl ?_
  refine jr_aload rfl rfl ?_
  refine jr_getI rfl rfl ?_
  refine jr_imul rfl ?_
  refine jr_aload rfl rfl ?_
  refine jr_getR rfl rfl rfl rfl (Or.inl rfl) ?_
  refine jr_aload rfl rfl ?_
  refine jr_getI rfl rfl ?_
  refine jr_iald (len := 2) rfl rfl (by first | exact b4 | exact b2) (by omega) ?_
  rw [show jh_I (h4) 11 0 44 = nI β from b4, show jh_I (h4) 67 0 β = nI (V 0 1) from (congrFun ((g4.1 67 0 (by decide)).trans ((g3.1 67 0 (by decide)).trans ((g2.1 67 0 (by decide)).trans (g1.1 67 0 (by decide))))) β).trans p1, show (5 : Int32) * nI β = nI (5 * β) from jn_mul rfl rfl]
  refine jr_cv3 (mc' := 0) (ms' := 0) rfl jm_MD_here_n jm_MD_here_f rfl rfl rfl rfl rfl rfl rfl (Nat.zero_le _) (Nat.zero_le _) ?_
  refine eM_here_p (B := B) (sz := sz) (t := t + 4) m4 hβ hWp (fun j hj => (congrFun ((g4.2.1 91 0 (by decide)).trans ((g3.2.1 91 0 (by decide)).trans ((g2.2.1 91 0 (by decide)).trans (g1.2.1 91 0 (by decide))))) _).trans ((p2 j hj).2)) (by omega) ?_
  refine jr_iret rfl rfl (Nat.zero_le _) (Nat.zero_le _) ?_
  rw [if_pos k4, j4]
  refine jr_cv1 (mc' := 0) (ms' := 0) rfl jm_MD_told_n jm_MD_told_f rfl rfl rfl rfl rfl rfl rfl (Nat.zero_le _) (Nat.zero_le _) ?_
  refine eM_told_y (j := b) (B := B) (sz := sz) (t := t + 4) t4 m4 f4 k4 (by omega) ?_
  refine jr_iast (len := 24) rfl rfl rfl (by omega) ?_
  refine jr_aload rfl rfl ?_
  refine jr_cv0 (mc' := 0) (ms' := 0) rfl jm_MD_isGood_n jm_MD_isGood_f rfl rfl rfl rfl rfl rfl rfl (Nat.zero_le _) (Nat.zero_le _) ?_
  show jx_W (jm_MD_isGood, _, _, _, _, _, _) _ 0 0 0 [some _] [] _
  refine jr_aload rfl rfl ?_
  refine jr_getI rfl rfl ?_
  refine jr_if_ne rfl (fun z => absurd f4 z) (fun _ => ?_)
  refine jr_ic rfl ?_
  refine jr_goto rfl ?_
  refine jr_zret rfl rfl rfl (Nat.zero_le _) (Nat.zero_le _) ?_
  refine jr_if_eq rfl (fun z => absurd z (by decide)) (fun _ => ?_)
  refine jr_aload rfl rfl ?_
  refine jr_getR rfl rfl rfl rfl (Or.inl rfl) ?_
  refine jr_iload rfl rfl ?_
  refine jr_iald (len := 24) rfl rfl rfl (by omega) ?_
  rw [jg_Iuu]
  refine jr_aload rfl rfl ?_
  refine jr_getR rfl rfl rfl rfl (Or.inl rfl) ?_
  refine jr_iload rfl rfl ?_
  refine jr_iald (len := 24) rfl rfl rfl (by omega) ?_
  rw [show jh_I (ju_I (h4) 74 0 (upd (jh_I (h4) 74 0) ((12 * β + V 0 2)) (nI b))) 73 0 (12 * β + V 0 2) = nI a from (congrFun ((g4.1 73 0 (by decide)).trans ((g3.1 73 0 (by decide)).trans (congrArg (fun F => upd F ((12 * β + V 0 2)) (nI a)) ((g2.1 73 0 (by decide)).trans (g1.1 73 0 (by decide)))))) (12 * β + V 0 2)).trans (jg_us _ _ _)]
  refine jr_icmp_ne rfl (fun _ => ?_) (fun z => absurd z (fun y => i4 (jn_eq (show nI b = nI a from y) (by omega) (by omega))))
  refine jr_aload rfl rfl ?_
  refine jr_cv0 (mc' := 0) (ms' := 0) rfl jm_MD_isGood_n jm_MD_isGood_f rfl rfl rfl rfl rfl rfl rfl (Nat.zero_le _) (Nat.zero_le _) ?_
  show jx_W (jm_MD_isGood, _, _, _, _, _, _) _ 0 0 0 [some _] [] _
  refine jr_aload rfl rfl ?_
  refine jr_getI rfl rfl ?_
  refine jr_if_ne rfl (fun z => absurd f4 z) (fun _ => ?_)
  refine jr_ic rfl ?_
  refine jr_goto rfl ?_
  refine jr_zret rfl rfl rfl (Nat.zero_le _) (Nat.zero_le _) ?_
  refine jr_if_eq rfl (fun z => absurd z (by decide)) (fun _ => ?_)
  refine jr_aload rfl rfl ?_
  refine jr_cv0 (mc' := 0) (ms' := 0) rfl jm_MD_goOn_n jm_MD_goOn_f rfl rfl rfl rfl rfl rfl rfl (Nat.zero_le _) (Nat.zero_le _) ?_
  refine eM_goOn (B := B) (sz := sz) (t := t + 5) t4.1 t4.2.1 t4.2.2.1 m4.2.1 (fun h5 g5 m5 => ?_)
  have t5 := jX_t_MG g5 t4
  have f5 : jh_I h5 11 0 4 = 0 := (g5.2.2.2 4 (by decide)).trans f4
  have b5 : jh_I h5 11 0 44 = nI β := (g5.2.2.2 44 (by decide)).trans b4
  refine jr_aload rfl rfl ?_
  refine jr_getR rfl rfl rfl rfl (Or.inl rfl) ?_
  refine jr_iload rfl rfl ?_
  refine jr_aload rfl rfl ?_
  refine jr_lc rfl ?_
  refine jr_ic rfl ?_
  refine jr_ic rfl ?_
  refine jr_cv3 (mc' := 0) (ms' := 0) rfl jm_MD_after_n jm_MD_after_f rfl rfl rfl rfl rfl rfl rfl (Nat.zero_le _) (Nat.zero_le _) ?_
  show jx_W (jm_MD_after, _, _, _, _, _, _) _ 0 0 0 [some _, some _, none, some _, some _] [] _
  refine jr_aload rfl rfl ?_
  refine jr_aload rfl rfl ?_
  refine jr_lload rfl rfl ?_
  refine jr_cv1 (mc' := 0) (ms' := 0) rfl jm_MD_isWord_n jm_MD_isWord_f rfl rfl rfl rfl rfl rfl rfl (Nat.zero_le _) (Nat.zero_le _) ?_
  refine eM_isWord (B := B) (sz := sz) (t := t + 5) m5 (i := 14) (by decide) jT_W14 ?_
  refine jr_cv1 (mc' := 0) (ms' := 0) rfl jm_MD_must_n jm_MD_must_f rfl rfl rfl rfl rfl rfl rfl (Nat.zero_le _) (Nat.zero_le _) ?_
  refine eM_must_y (B := B) (sz := sz) (t := t + 5) t5 m5 f5 (by rw [if_pos k5]; decide) (fun h6 g6 m6 => ?_)
  have t6 := jX_t_MG g6 t5
  have f6 : jh_I h6 11 0 4 = 0 := (g6.2.2.2 4 (by decide)).trans f5
  have b6 : jh_I h6 11 0 44 = nI β := (g6.2.2.2 44 (by decide)).trans b5
  refine jr_aload rfl rfl ?_
  refine jr_iload rfl rfl ?_
  refine jr_iload rfl rfl ?_
  refine jr_cv2 (mc' := 0) (ms' := 0) rfl jm_MD_numeral_n jm_MD_numeral_f rfl rfl rfl rfl rfl rfl rfl (Nat.zero_le _) (Nat.zero_le _) ?_
  refine eM_num_y (B := B) (sz := sz) (lo := 1) (hi := 99) (t := t + 6) t6 m6 f6 (by omega) (by omega) k6 r6.1 r6.2 (fun h7 g7 m7 => ?_)
  have t7 := jX_t_MG g7 t6
  have f7 : jh_I h7 11 0 4 = 0 := (g7.2.2.2 4 (by decide)).trans f6
  have b7 : jh_I h7 11 0 44 = nI β := (g7.2.2.2 44 (by decide)).trans b6
  refine jr_iret rfl rfl (Nat.zero_le _) (Nat.zero_le _) ?_
  refine jr_iast (len := 24) rfl rfl rfl (by omega) ?_
  refine jr_aload rfl rfl ?_
  refine jr_getR rfl rfl rfl rfl (Or.inl rfl) ?_
  refine jr_iload rfl rfl ?_
  refine jr_aload rfl rfl ?_
  refine jr_lc rfl ?_
  refine jr_ic rfl ?_
  refine jr_ic rfl ?_
  refine jr_cv3 (mc' := 0) (ms' := 0) rfl jm_MD_after_n jm_MD_after_f rfl rfl rfl rfl rfl rfl rfl (Nat.zero_le _) (Nat.zero_le _) ?_
  show jx_W (jm_MD_after, _, _, _, _, _, _) _ 0 0 0 [some _, some _, none, some _, some _] [] _
  refine jr_aload rfl rfl ?_
  refine jr_aload rfl rfl ?_
  refine jr_lload rfl rfl ?_
  refine jr_cv1 (mc' := 0) (ms' := 0) rfl jm_MD_isWord_n jm_MD_isWord_f rfl rfl rfl rfl rfl rfl rfl (Nat.zero_le _) (Nat.zero_le _) ?_
  refine eM_isWord (B := B) (sz := sz) (t := t + 7) m7 (i := 15) (by decide) jT_W15 ?_
  refine jr_cv1 (mc' := 0) (ms' := 0) rfl jm_MD_must_n jm_MD_must_f rfl rfl rfl rfl rfl rfl rfl (Nat.zero_le _) (Nat.zero_le _) ?_
  refine eM_must_y (B := B) (sz := sz) (t := t + 7) t7 m7 f7 (by rw [if_pos k7]; decide) (fun h8 g8 m8 => ?_)
  have t8 := jX_t_MG g8 t7
  have f8 : jh_I h8 11 0 4 = 0 := (g8.2.2.2 4 (by decide)).trans f7
  have b8 : jh_I h8 11 0 44 = nI β := (g8.2.2.2 44 (by decide)).trans b7
  refine jr_aload rfl rfl ?_
  refine jr_iload rfl rfl ?_
  refine jr_iload rfl rfl ?_
  refine jr_cv2 (mc' := 0) (ms' := 0) rfl jm_MD_numeral_n jm_MD_numeral_f rfl rfl rfl rfl rfl rfl rfl (Nat.zero_le _) (Nat.zero_le _) ?_
  refine eM_num_n (B := B) (sz := sz) (lo := 1) (hi := 31) (t := t + 8) t8 m8 f8 k8 (fun h9 g9 => ?_)
  have e9 : ¬ jh_I h9 11 0 4 = 0 := by rw [g9.2.2.2.1]; exact jX_kd_n _
  have m9 := jT_mc_ft g9 m8
  have b9 : jh_I h9 11 0 44 = nI β := (g9.2.2.1 44 (by decide) (by decide)).trans b8
  refine jr_iret rfl rfl (Nat.zero_le _) (Nat.zero_le _) ?_
  refine jr_iast (len := 24) rfl rfl rfl (by omega) ?_
  refine jr_aload rfl rfl ?_
  refine jr_aload rfl rfl ?_
  refine jr_lc rfl ?_
  refine jr_cv1 (mc' := 0) (ms' := 0) rfl jm_MD_isWord_n jm_MD_isWord_f rfl rfl rfl rfl rfl rfl rfl (Nat.zero_le _) (Nat.zero_le _) ?_
  refine eM_isWord (B := B) (sz := sz) (t := t + 8) m9 (i := 16) (by decide) jT_W16 ?_
  refine jr_cv1 (mc' := 0) (ms' := 0) rfl jm_MD_must_n jm_MD_must_f rfl rfl rfl rfl rfl rfl rfl (Nat.zero_le _) (Nat.zero_le _) ?_
  refine eM_must_b e9 ?_
  refine jr_aload rfl rfl ?_
  refine jr_getR rfl rfl rfl rfl (Or.inl rfl) ?_
  refine jr_iload rfl rfl ?_
  refine jr_aload rfl rfl ?_
  refine jr_aload rfl rfl ?_
  refine jr_aload rfl rfl ?_
  refine jr_getR rfl rfl rfl rfl (Or.inl rfl) ?_
  refine jr_ic rfl ?_
  refine jr_aload rfl rfl ?_
  refine jr_getI rfl rfl ?_
  refine jr_imul rfl ?_
  refine jr_aload rfl rfl ?_
  refine jr_getR rfl rfl rfl rfl (Or.inl rfl) ?_
  refine jr_aload rfl rfl ?_
  refine jr_getI rfl rfl ?_
  refine jr_iald (len := 2) rfl rfl b9 (by omega) ?_
  rw [show jh_I (ju_I (h9) 76 0 (upd (jh_I (h9) 76 0) ((12 * β + V 0 2)) (nI 1))) 11 0 44 = nI β from b9, show jh_I (ju_I (h9) 76 0 (upd (jh_I (h9) 76 0) ((12 * β + V 0 2)) (nI 1))) 66 0 β = nI (V 0 0) from (congrFun ((g9.1 66 0 (by decide)).trans ((g8.1 66 0 (by decide)).trans ((g7.1 66 0 (by decide)).trans ((g6.1 66 0 (by decide)).trans ((g5.1 66 0 (by decide)).trans ((g4.1 66 0 (by decide)).trans ((g3.1 66 0 (by decide)).trans ((g2.1 66 0 (by decide)).trans (g1.1 66 0 (by decide)))))))))) β).trans a1, show (6 : Int32) * nI β = nI (6 * β) from jn_mul rfl rfl]
  refine jr_cv3 (mc' := 0) (ms' := 0) rfl jm_MD_here_n jm_MD_here_f rfl rfl rfl rfl rfl rfl rfl (Nat.zero_le _) (Nat.zero_le _) ?_
  refine eM_here_m (B := B) (sz := sz) (t := t + 8) m9 hβ hWm (fun j hj => (congrFun ((congrFun (congrFun (congrArg (·.1) g9.2.1) 90) 0).trans ((g8.2.1 90 0 (by decide)).trans ((g7.2.1 90 0 (by decide)).trans ((g6.2.1 90 0 (by decide)).trans ((g5.2.1 90 0 (by decide)).trans ((g4.2.1 90 0 (by decide)).trans ((g3.2.1 90 0 (by decide)).trans ((g2.2.1 90 0 (by decide)).trans (g1.2.1 90 0 (by decide)))))))))) _).trans ((a2 j hj).2.2)) (by omega) ?_
  refine jr_cv1 (mc' := 0) (ms' := 0) rfl jm_MD_told_n jm_MD_told_f rfl rfl rfl rfl rfl rfl rfl (Nat.zero_le _) (Nat.zero_le _) ?_
  refine eM_told_b e9 ?_
  refine jr_iast (len := 24) rfl rfl rfl (by omega) ?_
  refine jr_aload rfl rfl ?_
  refine jr_cv0 (mc' := 0) (ms' := 0) rfl jm_MD_isGood_n jm_MD_isGood_f rfl rfl rfl rfl rfl rfl rfl (Nat.zero_le _) (Nat.zero_le _) ?_
  show jx_W (jm_MD_isGood, _, _, _, _, _, _) _ 0 0 0 [some _] [] _
  refine jr_aload rfl rfl ?_
  refine jr_getI rfl rfl ?_
  refine jr_if_ne rfl (fun _ => ?_) (fun z => absurd z e9)
  refine jr_ic rfl ?_
  refine jr_zret rfl rfl rfl (Nat.zero_le _) (Nat.zero_le _) ?_
  refine jr_if_eq rfl (fun _ => ?_) (fun z => absurd (by decide) z)
  refine jr_aload rfl rfl ?_
  refine jr_getR rfl rfl rfl rfl (Or.inl rfl) ?_
  refine jr_iload rfl rfl ?_
  refine jr_aload rfl rfl ?_
  refine jr_lc rfl ?_
  refine jr_cv1 (mc' := 0) (ms' := 0) rfl jm_MD_has_n jm_MD_has_f rfl rfl rfl rfl rfl rfl rfl (Nat.zero_le _) (Nat.zero_le _) ?_
  refine eM_has_b e9 ?_
  refine jr_zast (len := 24) rfl rfl rfl (by omega) ?_
  refine jr_aload rfl rfl ?_
  refine jr_getR rfl rfl rfl rfl (Or.inl rfl) ?_
  refine jr_aload rfl rfl ?_
  refine jr_getI rfl rfl ?_
  refine jr_dup2 rfl ?_
  refine jr_iald (len := 2) rfl rfl b9 (by omega) ?_
  refine jr_ic rfl ?_
  refine jr_iadd rfl ?_
  rw [show jh_I (ju_I (ju_I (ju_I (h9) 76 0 (upd (jh_I (h9) 76 0) ((12 * β + V 0 2)) (nI 1))) 77 0 (upd (jh_I (ju_I (h9) 76 0 (upd (jh_I (h9) 76 0) ((12 * β + V 0 2)) (nI 1))) 77 0) ((12 * β + V 0 2)) (0))) 84 0 (upd (jh_I (ju_I (ju_I (h9) 76 0 (upd (jh_I (h9) 76 0) ((12 * β + V 0 2)) (nI 1))) 77 0 (upd (jh_I (ju_I (h9) 76 0 (upd (jh_I (h9) 76 0) ((12 * β + V 0 2)) (nI 1))) 77 0) ((12 * β + V 0 2)) (0))) 84 0) ((12 * β + V 0 2)) (0 &&& 1))) 68 0 β = nI (V 0 2) from (congrFun ((g9.1 68 0 (by decide)).trans ((g8.1 68 0 (by decide)).trans ((g7.1 68 0 (by decide)).trans ((g6.1 68 0 (by decide)).trans ((g5.1 68 0 (by decide)).trans ((g4.1 68 0 (by decide)).trans ((g3.1 68 0 (by decide)).trans ((g2.1 68 0 (by decide)).trans (g1.1 68 0 (by decide)))))))))) β).trans c1, show nI (V 0 2) + 1 = nI (V 0 2 + 1) from jn_S _]
  refine jr_iast (len := 2) rfl rfl b9 (by omega) ?_
  refine jr_vret rfl rfl (Nat.zero_le _) (Nat.zero_le _) ?_
  exact k _ (jMF_I (a := 68) (w := 1) (jMF_I (a := 84) (w := 12) (jMF_I (a := 77) (w := 12) (jMF_I (a := 76) (w := 12) (jMF_ft (jMF_G (jMF_I (a := 75) (w := 12) (jMF_G (jMF_G (jMF_G (jMF_I (a := 74) (w := 12) (jMF_G (jMF_G (jMF_I (a := 73) (w := 12) (jMF_G (jMF_L (a := 92) (w := 12) (jMF_G (F) g1) (by decide) (by decide) (by omega) (by omega)) g2) (by decide) (by decide) (by omega) (by omega)) g3) g4) (by decide) (by decide) (by omega) (by omega)) g5) g6) g7) (by decide) (by decide) (by omega) (by omega)) g8) g9) (by decide) (by decide) (by omega) (by omega)) (by decide) (by decide) (by omega) (by omega)) (by decide) (by decide) (by omega) (by omega)) (by decide) (by decide) (by omega) (by omega)) g9.2.2.2.1 g9.2.2.2.2

set_option maxHeartbeats 800000 in
set_option maxRecDepth 100000 in
theorem eM_due_b14 {d : Nat} {h : jx_H} {Q : Option jx_V → jx_H → Prop} {h0 : jx_H} {B : Nat → Int32} {sz β t : Nat} {a b : Nat} {V : Nat → Nat → Nat} {W : Nat → Nat → List Nat} {D : Nat → Int32} (x : jML h B sz β t V W D) (F : jMF β h0 h) (hβ : β < 2) (hn : V 0 2 < 12) (h5 : V 0 1 ≤ 5) (h6 : V 0 0 ≤ 6) (hW : jnW (W 2) (V 0 2)) (hWp : jnW (W 1) (V 0 1)) (hWm : jnW (W 0) (V 0 0)) (k0 : jT_K B sz t = 3) (n0 : jnF (W 2) (jT_wd B sz (jT_p B sz t)) (V 0 2) 0 = none) (k1 : jT_K B sz (t + 1) = 113) (k2 : jT_K B sz (t + 2) = 3) (j2 : jnF (W 1) (jT_wd B sz (jT_p B sz (t + 2))) (V 0 1) 0 = some a) (k3 : jT_K B sz (t + 3) = 108) (k4 : jT_K B sz (t + 4) = 3) (j4 : jnF (W 1) (jT_wd B sz (jT_p B sz (t + 4))) (V 0 1) 0 = some b) (i4 : ¬ b = a) (k5 : jT_K B sz (t + 5) = 114) (k6 : jT_K B sz (t + 6) = 2) (r6 : 1 ≤ jT_v B sz (jT_p B sz (t + 6)) ∧ jT_v B sz (jT_p B sz (t + 6)) ≤ 99) (k7 : jT_K B sz (t + 7) = 115) (k8 : jT_K B sz (t + 8) = 2) (r8 : jT_v B sz (jT_p B sz (t + 8)) < 1 ∨ 31 < jT_v B sz (jT_p B sz (t + 8))) (k : ∀ h', jMF β h0 h' → jh_I h' 11 0 4 = 4 → jPl h' (jT_p B sz (t + 8)) → Q none h')  : jx_Ev jm_MD_readDue (d + 8) 0 0 false 1 [jv_r 11 0] h Q := by
  show jx_W (jm_MD_readDue, d + 8, 0, 0, false, 1, _) Q 0 0 0 [some (jv_r 11 0), none] [] _
  obtain ⟨⟨t0, m0, f0, b0, -, -, -, -⟩, ⟨⟨a1, a2⟩, ⟨p1, p2⟩, ⟨c1, c2⟩, -⟩, -⟩ := id x
  have xb := b0
  have hr : ∀ j, j < V 0 2 → jh_L h 92 0 (12 * β + j) = jT_key (W 2 j) := fun j hj => (c2 j hj).2
  have hj2 := (jnF_lt _ _ _ j2).2.1
  have hj4 := (jnF_lt _ _ _ j4).2.1
  refine jr_ic rfl ?_
  refine jr_aload rfl rfl ?_
  refine jr_getI rfl rfl ?_
  refine jr_imul rfl ?_
  refine jr_aload rfl rfl ?_
  refine jr_getR rfl rfl rfl rfl (Or.inl rfl) ?_
  refine jr_aload rfl rfl ?_
  refine jr_getI rfl rfl ?_
  refine jr_iald (len := 2) rfl rfl b0 (by omega) ?_
  refine jr_iadd rfl ?_
  rw [xb, c1, show (12 : Int32) * nI β + nI (V 0 2) = nI (12 * β + V 0 2) from jn_add (jn_mul rfl rfl) rfl]
  refine jr_ist1 rfl rfl ?_
  refine jr_aload rfl rfl ?_
  refine jr_getR rfl rfl rfl rfl (Or.inl rfl) ?_
  refine jr_iload rfl rfl ?_
  refine jr_aload rfl rfl ?_
  refine jr_aload rfl rfl ?_
  refine jr_aload rfl rfl ?_
  refine jr_getR rfl rfl rfl rfl (Or.inl rfl) ?_
  refine jr_ic rfl ?_
  refine jr_aload rfl rfl ?_
  refine jr_getI rfl rfl ?_
  refine jr_imul rfl ?_
  refine jr_aload rfl rfl ?_
  refine jr_getR rfl rfl rfl rfl (Or.inl rfl) ?_
  refine jr_aload rfl rfl ?_
  refine jr_getI rfl rfl ?_
  refine jr_iald (len := 2) rfl rfl b0 (by omega) ?_
  rw [xb, c1, show (12 : Int32) * nI β = nI (12 * β) from jn_mul rfl rfl]
  refine jr_cv3 (mc' := 0) (ms' := 0) rfl jm_MD_here_n jm_MD_here_f rfl rfl rfl rfl rfl rfl rfl (Nat.zero_le _) (Nat.zero_le _) ?_
  refine eM_here_d m0 hβ hW hr (by omega) ?_
  rw [if_pos k0, n0]
  refine jr_cv1 (mc' := 0) (ms' := 0) rfl jm_MD_fresh_n jm_MD_fresh_f rfl rfl rfl rfl rfl rfl rfl (Nat.zero_le _) (Nat.zero_le _) ?_
  refine eM_fresh_y (B := B) (sz := sz) (t := t) t0 m0 f0 k0 (fun h1 g1 m1 => ?_)
  have t1 := jX_t_MG g1 t0
  have f1 : jh_I h1 11 0 4 = 0 := (g1.2.2.2 4 (by decide)).trans f0
  have b1 : jh_I h1 11 0 44 = nI β := (g1.2.2.2 44 (by decide)).trans b0
  refine jr_last (len := 24) rfl rfl rfl (by omega) ?_
  refine jr_aload rfl rfl ?_
  refine jr_aload rfl rfl ?_
  refine jr_lc rfl ?_
  refine jr_cv1 (mc' := 0) (ms' := 0) rfl jm_MD_isWord_n jm_MD_isWord_f rfl rfl rfl rfl rfl rfl rfl (Nat.zero_le _) (Nat.zero_le _) ?_
  refine eM_isWord (B := B) (sz := sz) (t := t + 1) m1 (i := 13) (by decide) jT_W13 ?_
  refine jr_cv1 (mc' := 0) (ms' := 0) rfl jm_MD_must_n jm_MD_must_f rfl rfl rfl rfl rfl rfl rfl (Nat.zero_le _) (Nat.zero_le _) ?_
  refine eM_must_y (B := B) (sz := sz) (t := t + 1) t1 m1 f1 (by rw [if_pos k1]; decide) (fun h2 g2 m2 => ?_)
  have t2 := jX_t_MG g2 t1
  have f2 : jh_I h2 11 0 4 = 0 := (g2.2.2.2 4 (by decide)).trans f1
  have b2 : jh_I h2 11 0 44 = nI β := (g2.2.2.2 44 (by decide)).trans b1
  refine jr_aload rfl rfl ?_
  refine jr_getR rfl rfl rfl rfl (Or.inl rfl) ?_
  refine jr_iload rfl rfl ?_
  refine jr_aload rfl rfl ?_
  refine jr_aload rfl rfl ?_
  refine jr_cv0 (mc' := 0) (ms' := 0) rfl jm_MD_personHere_n jm_MD_personHere_f rfl rfl rfl rfl rfl rfl rfl (Nat.zero_le _) (Nat.zero_le _) ?_
  show jx_W (jm_MD_personHere, _, _, _, _, _, _) _ 0 0 0 [some _] [] _
  refine jr_aload rfl rfl ?_
  refine jr_aload rfl rfl ?_
  refine jr_getR rfl rfl rfl rfl (Or.inl rfl) ?_
  refine jr_ic rfl ?_
  refine jr_aload rfl rfl ?_
  refine jr_getI rfl rfl ?_
  refine jr_imul rfl ?_
  refine jr_aload rfl rfl ?_
  refine jr_getR rfl rfl rfl rfl (Or.inl rfl) ?_
  refine jr_aload rfl rfl ?_
  refine jr_getI rfl rfl ?_
  refine jr_iald (len := 2) rfl rfl (by first | exact b4 | exact b2) (by omega) ?_
  rw [show jh_I (h2) 11 0 44 = nI β from b2, show jh_I (h2) 67 0 β = nI (V 0 1) from (congrFun ((g2.1 67 0 (by decide)).trans (g1.1 67 0 (by decide))) β).trans p1, show (5 : Int32) * nI β = nI (5 * β) from jn_mul rfl rfl]
  refine jr_cv3 (mc' := 0) (ms' := 0) rfl jm_MD_here_n jm_MD_here_f rfl rfl rfl rfl rfl rfl rfl (Nat.zero_le _) (Nat.zero_le _) ?_
  refine eM_here_p (B := B) (sz := sz) (t := t + 2) m2 hβ hWp (fun j hj => (congrFun ((g2.2.1 91 0 (by decide)).trans (g1.2.1 91 0 (by decide))) _).trans ((p2 j hj).2)) (by omega) ?_
  refine jr_iret rfl rfl (Nat.zero_le _) (Nat.zero_le _) ?_
  rw [if_pos k2, j2]
  refine jr_cv1 (mc' := 0) (ms' := 0) rfl jm_MD_told_n jm_MD_told_f rfl rfl rfl rfl rfl rfl rfl (Nat.zero_le _) (Nat.zero_le _) ?_
  refine eM_told_y (j := a) (B := B) (sz := sz) (t := t + 2) t2 m2 f2 k2 (by omega) ?_
  refine jr_iast (len := 24) rfl rfl rfl (by omega) ?_
  refine jr_aload rfl rfl ?_
  refine jr_cv0 (mc' := 0) (ms' := 0) rfl jm_MD_isGood_n jm_MD_isGood_f rfl rfl rfl rfl rfl rfl rfl (Nat.zero_le _) (Nat.zero_le _) ?_
  show jx_W (jm_MD_isGood, _, _, _, _, _, _) _ 0 0 0 [some _] [] _
  refine jr_aload rfl rfl ?_
  refine jr_getI rfl rfl ?_
  refine jr_if_ne rfl (fun z => absurd f2 z) (fun _ => ?_)
  refine jr_ic rfl ?_
  refine jr_goto rfl ?_
  refine jr_zret rfl rfl rfl (Nat.zero_le _) (Nat.zero_le _) ?_
  refine jr_if_eq rfl (fun z => absurd z (by decide)) (fun _ => ?_)
  refine jr_aload rfl rfl ?_
  refine jr_cv0 (mc' := 0) (ms' := 0) rfl jm_MD_goOn_n jm_MD_goOn_f rfl rfl rfl rfl rfl rfl rfl (Nat.zero_le _) (Nat.zero_le _) ?_
  refine eM_goOn (B := B) (sz := sz) (t := t + 3) t2.1 t2.2.1 t2.2.2.1 m2.2.1 (fun h3 g3 m3 => ?_)
  have t3 := jX_t_MG g3 t2
  have f3 : jh_I h3 11 0 4 = 0 := (g3.2.2.2 4 (by decide)).trans f2
  have b3 : jh_I h3 11 0 44 = nI β := (g3.2.2.2 44 (by decide)).trans b2
  refine jr_aload rfl rfl ?_
  refine jr_aload rfl rfl ?_
  refine jr_lc rfl ?_
  refine jr_cv1 (mc' := 0) (ms' := 0) rfl jm_MD_isWord_n jm_MD_isWord_f rfl rfl rfl rfl rfl rfl rfl (Nat.zero_le _) (Nat.zero_le _) ?_
  refine eM_isWord (B := B) (sz := sz) (t := t + 3) m3 (i := 8) (by decide) jT_W8 ?_
  refine jr_cv1 (mc' := 0) (ms' := 0) rfl jm_MD_must_n jm_MD_must_f rfl rfl rfl rfl rfl rfl rfl (Nat.zero_le _) (Nat.zero_le _) ?_
  refine eM_must_y (B := B) (sz := sz) (t := t + 3) t3 m3 f3 (by rw [if_pos k3]; decide) (fun h4 g4 m4 => ?_)
  have t4 := jX_t_MG g4 t3
  have f4 : jh_I h4 11 0 4 = 0 := (g4.2.2.2 4 (by decide)).trans f3
  have b4 : jh_I h4 11 0 44 = nI β := (g4.2.2.2 44 (by decide)).trans b3
  refine jr_aload rfl rfl ?_
  refine jr_getR rfl rfl rfl rfl (Or.inl rfl) ?_
  refine jr_iload rfl rfl ?_
  refine jr_aload rfl rfl ?_
  refine jr_aload rfl rfl ?_
  refine jr_cv0 (mc' := 0) (ms' := 0) rfl jm_MD_personHere_n jm_MD_personHere_f rfl rfl rfl rfl rfl rfl rfl (Nat.zero_le _) (Nat.zero_le _) ?_
  show jx_W (jm_MD_personHere, _, _, _, _, _, _) _ 0 0 0 [some _] [] _
  refine jr_aload rfl rfl ?_
  refine jr_aload rfl rfl ?_
  refine jr_getR rfl rfl rfl rfl (Or.inl rfl) ?_
  refine jr_ic rfl ?_
  refine jr_aload rfl rfl ?_
  refine jr_getI rfl rfl ?_
  refine jr_imul rfl ?_
  refine jr_aload rfl rfl ?_
  refine jr_getR rfl rfl rfl rfl (Or.inl rfl) ?_
  refine jr_aload rfl rfl ?_
  refine jr_getI rfl rfl ?_
  refine jr_iald (len := 2) rfl rfl (by first | exact b4 | exact b2) (by omega) ?_
  rw [show jh_I (h4) 11 0 44 = nI β from b4, show jh_I (h4) 67 0 β = nI (V 0 1) from (congrFun ((g4.1 67 0 (by decide)).trans ((g3.1 67 0 (by decide)).trans ((g2.1 67 0 (by decide)).trans (g1.1 67 0 (by decide))))) β).trans p1, show (5 : Int32) * nI β = nI (5 * β) from jn_mul rfl rfl]
  refine jr_cv3 (mc' := 0) (ms' := 0) rfl jm_MD_here_n jm_MD_here_f rfl rfl rfl rfl rfl rfl rfl (Nat.zero_le _) (Nat.zero_le _) ?_
  refine eM_here_p (B := B) (sz := sz) (t := t + 4) m4 hβ hWp (fun j hj => (congrFun ((g4.2.1 91 0 (by decide)).trans ((g3.2.1 91 0 (by decide)).trans ((g2.2.1 91 0 (by decide)).trans (g1.2.1 91 0 (by decide))))) _).trans ((p2 j hj).2)) (by omega) ?_
  refine jr_iret rfl rfl (Nat.zero_le _) (Nat.zero_le _) ?_
  rw [if_pos k4, j4]
  refine jr_cv1 (mc' := 0) (ms' := 0) rfl jm_MD_told_n jm_MD_told_f rfl rfl rfl rfl rfl rfl rfl (Nat.zero_le _) (Nat.zero_le _) ?_
  refine eM_told_y (j := b) (B := B) (sz := sz) (t := t + 4) t4 m4 f4 k4 (by omega) ?_
  refine jr_iast (len := 24) rfl rfl rfl (by omega) ?_
  refine jr_aload rfl rfl ?_
  refine jr_cv0 (mc' := 0) (ms' := 0) rfl jm_MD_isGood_n jm_MD_isGood_f rfl rfl rfl rfl rfl rfl rfl (Nat.zero_le _) (Nat.zero_le _) ?_
  show jx_W (jm_MD_isGood, _, _, _, _, _, _) _ 0 0 0 [some _] [] _
  refine jr_aload rfl rfl ?_
  refine jr_getI rfl rfl ?_
  refine jr_if_ne rfl (fun z => absurd f4 z) (fun _ => ?_)
  refine jr_ic rfl ?_
  refine jr_goto rfl ?_
  refine jr_zret rfl rfl rfl (Nat.zero_le _) (Nat.zero_le _) ?_
  refine jr_if_eq rfl (fun z => absurd z (by decide)) (fun _ => ?_)
  refine jr_aload rfl rfl ?_
  refine jr_getR rfl rfl rfl rfl (Or.inl rfl) ?_
  refine jr_iload rfl rfl ?_
  refine jr_iald (len := 24) rfl rfl rfl (by omega) ?_
  rw [jg_Iuu]
  refine jr_aload rfl rfl ?_
  refine jr_getR rfl rfl rfl rfl (Or.inl rfl) ?_
  refine jr_iload rfl rfl ?_
  refine jr_iald (len := 24) rfl rfl rfl (by omega) ?_
  rw [show jh_I (ju_I (h4) 74 0 (upd (jh_I (h4) 74 0) ((12 * β + V 0 2)) (nI b))) 73 0 (12 * β + V 0 2) = nI a from (congrFun ((g4.1 73 0 (by decide)).trans ((g3.1 73 0 (by decide)).trans (congrArg (fun F => upd F ((12 * β + V 0 2)) (nI a)) ((g2.1 73 0 (by decide)).trans (g1.1 73 0 (by decide)))))) (12 * β + V 0 2)).trans (jg_us _ _ _)]
  refine jr_icmp_ne rfl (fun _ => ?_) (fun z => absurd z (fun y => i4 (jn_eq (show nI b = nI a from y) (by omega) (by omega))))
  refine jr_aload rfl rfl ?_
  refine jr_cv0 (mc' := 0) (ms' := 0) rfl jm_MD_isGood_n jm_MD_isGood_f rfl rfl rfl rfl rfl rfl rfl (Nat.zero_le _) (Nat.zero_le _) ?_
  show jx_W (jm_MD_isGood, _, _, _, _, _, _) _ 0 0 0 [some _] [] _
  refine jr_aload rfl rfl ?_
  refine jr_getI rfl rfl ?_
  refine jr_if_ne rfl (fun z => absurd f4 z) (fun _ => ?_)
  refine jr_ic rfl ?_
  refine jr_goto rfl ?_
  refine jr_zret rfl rfl rfl (Nat.zero_le _) (Nat.zero_le _) ?_
  refine jr_if_eq rfl (fun z => absurd z (by decide)) (fun _ => ?_)
  refine jr_aload rfl rfl ?_
  refine jr_cv0 (mc' := 0) (ms' := 0) rfl jm_MD_goOn_n jm_MD_goOn_f rfl rfl rfl rfl rfl rfl rfl (Nat.zero_le _) (Nat.zero_le _) ?_
  refine eM_goOn (B := B) (sz := sz) (t := t + 5) t4.1 t4.2.1 t4.2.2.1 m4.2.1 (fun h5 g5 m5 => ?_)
  have t5 := jX_t_MG g5 t4
  have f5 : jh_I h5 11 0 4 = 0 := (g5.2.2.2 4 (by decide)).trans f4
  have b5 : jh_I h5 11 0 44 = nI β := (g5.2.2.2 44 (by decide)).trans b4
  refine jr_aload rfl rfl ?_
  refine jr_getR rfl rfl rfl rfl (Or.inl rfl) ?_
  refine jr_iload rfl rfl ?_
  refine jr_aload rfl rfl ?_
  refine jr_lc rfl ?_
  refine jr_ic rfl ?_
  refine jr_ic rfl ?_
  refine jr_cv3 (mc' := 0) (ms' := 0) rfl jm_MD_after_n jm_MD_after_f rfl rfl rfl rfl rfl rfl rfl (Nat.zero_le _) (Nat.zero_le _) ?_
  show jx_W (jm_MD_after, _, _, _, _, _, _) _ 0 0 0 [some _, some _, none, some _, some _] [] _
  refine jr_aload rfl rfl ?_
  refine jr_aload rfl rfl ?_
  refine jr_lload rfl rfl ?_
  refine jr_cv1 (mc' := 0) (ms' := 0) rfl jm_MD_isWord_n jm_MD_isWord_f rfl rfl rfl rfl rfl rfl rfl (Nat.zero_le _) (Nat.zero_le _) ?_
  refine eM_isWord (B := B) (sz := sz) (t := t + 5) m5 (i := 14) (by decide) jT_W14 ?_
  refine jr_cv1 (mc' := 0) (ms' := 0) rfl jm_MD_must_n jm_MD_must_f rfl rfl rfl rfl rfl rfl rfl (Nat.zero_le _) (Nat.zero_le _) ?_
  refine eM_must_y (B := B) (sz := sz) (t := t + 5) t5 m5 f5 (by rw [if_pos k5]; decide) (fun h6 g6 m6 => ?_)
  have t6 := jX_t_MG g6 t5
  have f6 : jh_I h6 11 0 4 = 0 := (g6.2.2.2 4 (by decide)).trans f5
  have b6 : jh_I h6 11 0 44 = nI β := (g6.2.2.2 44 (by decide)).trans b5
  refine jr_aload rfl rfl ?_
  refine jr_iload rfl rfl ?_
  refine jr_iload rfl rfl ?_
  refine jr_cv2 (mc' := 0) (ms' := 0) rfl jm_MD_numeral_n jm_MD_numeral_f rfl rfl rfl rfl rfl rfl rfl (Nat.zero_le _) (Nat.zero_le _) ?_
  refine eM_num_y (B := B) (sz := sz) (lo := 1) (hi := 99) (t := t + 6) t6 m6 f6 (by omega) (by omega) k6 r6.1 r6.2 (fun h7 g7 m7 => ?_)
  have t7 := jX_t_MG g7 t6
  have f7 : jh_I h7 11 0 4 = 0 := (g7.2.2.2 4 (by decide)).trans f6
  have b7 : jh_I h7 11 0 44 = nI β := (g7.2.2.2 44 (by decide)).trans b6
  refine jr_iret rfl rfl (Nat.zero_le _) (Nat.zero_le _) ?_
  refine jr_iast (len := 24) rfl rfl rfl (by omega) ?_
  refine jr_aload rfl rfl ?_
  refine jr_getR rfl rfl rfl rfl (Or.inl rfl) ?_
  refine jr_iload rfl rfl ?_
  refine jr_aload rfl rfl ?_
  refine jr_lc rfl ?_
  refine jr_ic rfl ?_
  refine jr_ic rfl ?_
  refine jr_cv3 (mc' := 0) (ms' := 0) rfl jm_MD_after_n jm_MD_after_f rfl rfl rfl rfl rfl rfl rfl (Nat.zero_le _) (Nat.zero_le _) ?_
  show jx_W (jm_MD_after, _, _, _, _, _, _) _ 0 0 0 [some _, some _, none, some _, some _] [] _
  refine jr_aload rfl rfl ?_
  refine jr_aload rfl rfl ?_
  refine jr_lload rfl rfl ?_
  refine jr_cv1 (mc' := 0) (ms' := 0) rfl jm_MD_isWord_n jm_MD_isWord_f rfl rfl rfl rfl rfl rfl rfl (Nat.zero_le _) (Nat.zero_le _) ?_
  refine eM_isWord (B := B) (sz := sz) (t := t + 7) m7 (i := 15) (by decide) jT_W15 ?_
  refine jr_cv1 (mc' := 0) (ms' := 0) rfl jm_MD_must_n jm_MD_must_f rfl rfl rfl rfl rfl rfl rfl (Nat.zero_le _) (Nat.zero_le _) ?_
  refine eM_must_y (B := B) (sz := sz) (t := t + 7) t7 m7 f7 (by rw [if_pos k7]; decide) (fun h8 g8 m8 => ?_)
  have t8 := jX_t_MG g8 t7
  have f8 : jh_I h8 11 0 4 = 0 := (g8.2.2.2 4 (by decide)).trans f7
  have b8 : jh_I h8 11 0 44 = nI β := (g8.2.2.2 44 (by decide)).trans b7
  refine jr_aload rfl rfl ?_
  refine jr_iload rfl rfl ?_
  refine jr_iload rfl rfl ?_
  refine jr_cv2 (mc' := 0) (ms' := 0) rfl jm_MD_numeral_n jm_MD_numeral_f rfl rfl rfl rfl rfl rfl rfl (Nat.zero_le _) (Nat.zero_le _) ?_
  refine eM_num_r (B := B) (sz := sz) (lo := 1) (hi := 31) (t := t + 8) t8 m8 f8 (by omega) (by omega) k8 r8 (fun h9 g9 => ?_)
  have e9 : ¬ jh_I h9 11 0 4 = 0 := by rw [g9.2.2.2.1]; exact (by decide)
  have m9 := jT_mc_ft g9 m8
  have b9 : jh_I h9 11 0 44 = nI β := (g9.2.2.1 44 (by decide) (by decide)).trans b8
  refine jr_iret rfl rfl (Nat.zero_le _) (Nat.zero_le _) ?_
  refine jr_iast (len := 24) rfl rfl rfl (by omega) ?_
  refine jr_aload rfl rfl ?_
  refine jr_aload rfl rfl ?_
  refine jr_lc rfl ?_
  refine jr_cv1 (mc' := 0) (ms' := 0) rfl jm_MD_isWord_n jm_MD_isWord_f rfl rfl rfl rfl rfl rfl rfl (Nat.zero_le _) (Nat.zero_le _) ?_
  refine eM_isWord (B := B) (sz := sz) (t := t + 8) m9 (i := 16) (by decide) jT_W16 ?_
  refine jr_cv1 (mc' := 0) (ms' := 0) rfl jm_MD_must_n jm_MD_must_f rfl rfl rfl rfl rfl rfl rfl (Nat.zero_le _) (Nat.zero_le _) ?_
  refine eM_must_b e9 ?_
  refine jr_aload rfl rfl ?_
  refine jr_getR rfl rfl rfl rfl (Or.inl rfl) ?_
  refine jr_iload rfl rfl ?_
  refine jr_aload rfl rfl ?_
  refine jr_aload rfl rfl ?_
  refine jr_aload rfl rfl ?_
  refine jr_getR rfl rfl rfl rfl (Or.inl rfl) ?_
  refine jr_ic rfl ?_
  refine jr_aload rfl rfl ?_
  refine jr_getI rfl rfl ?_
  refine jr_imul rfl ?_
  refine jr_aload rfl rfl ?_
  refine jr_getR rfl rfl rfl rfl (Or.inl rfl) ?_
  refine jr_aload rfl rfl ?_
  refine jr_getI rfl rfl ?_
  refine jr_iald (len := 2) rfl rfl b9 (by omega) ?_
  rw [show jh_I (ju_I (h9) 76 0 (upd (jh_I (h9) 76 0) ((12 * β + V 0 2)) (nI 1))) 11 0 44 = nI β from b9, show jh_I (ju_I (h9) 76 0 (upd (jh_I (h9) 76 0) ((12 * β + V 0 2)) (nI 1))) 66 0 β = nI (V 0 0) from (congrFun ((g9.1 66 0 (by decide)).trans ((g8.1 66 0 (by decide)).trans ((g7.1 66 0 (by decide)).trans ((g6.1 66 0 (by decide)).trans ((g5.1 66 0 (by decide)).trans ((g4.1 66 0 (by decide)).trans ((g3.1 66 0 (by decide)).trans ((g2.1 66 0 (by decide)).trans (g1.1 66 0 (by decide)))))))))) β).trans a1, show (6 : Int32) * nI β = nI (6 * β) from jn_mul rfl rfl]
  refine jr_cv3 (mc' := 0) (ms' := 0) rfl jm_MD_here_n jm_MD_here_f rfl rfl rfl rfl rfl rfl rfl (Nat.zero_le _) (Nat.zero_le _) ?_
  refine eM_here_m (B := B) (sz := sz) (t := t + 8) m9 hβ hWm (fun j hj => (congrFun ((congrFun (congrFun (congrArg (·.1) g9.2.1) 90) 0).trans ((g8.2.1 90 0 (by decide)).trans ((g7.2.1 90 0 (by decide)).trans ((g6.2.1 90 0 (by decide)).trans ((g5.2.1 90 0 (by decide)).trans ((g4.2.1 90 0 (by decide)).trans ((g3.2.1 90 0 (by decide)).trans ((g2.2.1 90 0 (by decide)).trans (g1.2.1 90 0 (by decide)))))))))) _).trans ((a2 j hj).2.2)) (by omega) ?_
  refine jr_cv1 (mc' := 0) (ms' := 0) rfl jm_MD_told_n jm_MD_told_f rfl rfl rfl rfl rfl rfl rfl (Nat.zero_le _) (Nat.zero_le _) ?_
  refine eM_told_b e9 ?_
  refine jr_iast (len := 24) rfl rfl rfl (by omega) ?_
  refine jr_aload rfl rfl ?_
  refine jr_cv0 (mc' := 0) (ms' := 0) rfl jm_MD_isGood_n jm_MD_isGood_f rfl rfl rfl rfl rfl rfl rfl (Nat.zero_le _) (Nat.zero_le _) ?_
  show jx_W (jm_MD_isGood, _, _, _, _, _, _) _ 0 0 0 [some _] [] _
  refine jr_aload rfl rfl ?_
  refine jr_getI rfl rfl ?_
  refine jr_if_ne rfl (fun _ => ?_) (fun z => absurd z e9)
  refine jr_ic rfl ?_
  refine jr_zret rfl rfl rfl (Nat.zero_le _) (Nat.zero_le _) ?_
  refine jr_if_eq rfl (fun _ => ?_) (fun z => absurd (by decide) z)
  refine jr_aload rfl rfl ?_
  refine jr_getR rfl rfl rfl rfl (Or.inl rfl) ?_
  refine jr_iload rfl rfl ?_
  refine jr_aload rfl rfl ?_
  refine jr_lc rfl ?_
  refine jr_cv1 (mc' := 0) (ms' := 0) rfl jm_MD_has_n jm_MD_has_f rfl rfl rfl rfl rfl rfl rfl (Nat.zero_le _) (Nat.zero_le _) ?_
  refine eM_has_b e9 ?_
  refine jr_zast (len := 24) rfl rfl rfl (by omega) ?_
  refine jr_aload rfl rfl ?_
  refine jr_getR rfl rfl rfl rfl (Or.inl rfl) ?_
  refine jr_aload rfl rfl ?_
  refine jr_getI rfl rfl ?_
  refine jr_dup2 rfl ?_
  refine jr_iald (len := 2) rfl rfl b9 (by omega) ?_
  refine jr_ic rfl ?_
  refine jr_iadd rfl ?_
  rw [show jh_I (ju_I (ju_I (ju_I (h9) 76 0 (upd (jh_I (h9) 76 0) ((12 * β + V 0 2)) (nI 1))) 77 0 (upd (jh_I (ju_I (h9) 76 0 (upd (jh_I (h9) 76 0) ((12 * β + V 0 2)) (nI 1))) 77 0) ((12 * β + V 0 2)) (0))) 84 0 (upd (jh_I (ju_I (ju_I (h9) 76 0 (upd (jh_I (h9) 76 0) ((12 * β + V 0 2)) (nI 1))) 77 0 (upd (jh_I (ju_I (h9) 76 0 (upd (jh_I (h9) 76 0) ((12 * β + V 0 2)) (nI 1))) 77 0) ((12 * β + V 0 2)) (0))) 84 0) ((12 * β + V 0 2)) (0 &&& 1))) 68 0 β = nI (V 0 2) from (congrFun ((g9.1 68 0 (by decide)).trans ((g8.1 68 0 (by decide)).trans ((g7.1 68 0 (by decide)).trans ((g6.1 68 0 (by decide)).trans ((g5.1 68 0 (by decide)).trans ((g4.1 68 0 (by decide)).trans ((g3.1 68 0 (by decide)).trans ((g2.1 68 0 (by decide)).trans (g1.1 68 0 (by decide)))))))))) β).trans c1, show nI (V 0 2) + 1 = nI (V 0 2 + 1) from jn_S _]
  refine jr_iast (len := 2) rfl rfl b9 (by omega) ?_
  refine jr_vret rfl rfl (Nat.zero_le _) (Nat.zero_le _) ?_
  exact k _ (jMF_I (a := 68) (w := 1) (jMF_I (a := 84) (w := 12) (jMF_I (a := 77) (w := 12) (jMF_I (a := 76) (w := 12) (jMF_ft (jMF_G (jMF_I (a := 75) (w := 12) (jMF_G (jMF_G (jMF_G (jMF_I (a := 74) (w := 12) (jMF_G (jMF_G (jMF_I (a := 73) (w := 12) (jMF_G (jMF_L (a := 92) (w := 12) (jMF_G (F) g1) (by decide) (by decide) (by omega) (by omega)) g2) (by decide) (by decide) (by omega) (by omega)) g3) g4) (by decide) (by decide) (by omega) (by omega)) g5) g6) g7) (by decide) (by decide) (by omega) (by omega)) g8) g9) (by decide) (by decide) (by omega) (by omega)) (by decide) (by decide) (by omega) (by omega)) (by decide) (by decide) (by omega) (by omega)) (by decide) (by decide) (by omega) (by omega)) g9.2.2.2.1 g9.2.2.2.2

set_option maxHeartbeats 800000 in
set_option maxRecDepth 100000 in
theorem eM_due_b15 {d : Nat} {h : jx_H} {Q : Option jx_V → jx_H → Prop} {h0 : jx_H} {B : Nat → Int32} {sz β t : Nat} {a b : Nat} {V : Nat → Nat → Nat} {W : Nat → Nat → List Nat} {D : Nat → Int32} (x : jML h B sz β t V W D) (F : jMF β h0 h) (hβ : β < 2) (hn : V 0 2 < 12) (h5 : V 0 1 ≤ 5) (h6 : V 0 0 ≤ 6) (hW : jnW (W 2) (V 0 2)) (hWp : jnW (W 1) (V 0 1)) (hWm : jnW (W 0) (V 0 0)) (k0 : jT_K B sz t = 3) (n0 : jnF (W 2) (jT_wd B sz (jT_p B sz t)) (V 0 2) 0 = none) (k1 : jT_K B sz (t + 1) = 113) (k2 : jT_K B sz (t + 2) = 3) (j2 : jnF (W 1) (jT_wd B sz (jT_p B sz (t + 2))) (V 0 1) 0 = some a) (k3 : jT_K B sz (t + 3) = 108) (k4 : jT_K B sz (t + 4) = 3) (j4 : jnF (W 1) (jT_wd B sz (jT_p B sz (t + 4))) (V 0 1) 0 = some b) (i4 : ¬ b = a) (k5 : jT_K B sz (t + 5) = 114) (k6 : jT_K B sz (t + 6) = 2) (r6 : 1 ≤ jT_v B sz (jT_p B sz (t + 6)) ∧ jT_v B sz (jT_p B sz (t + 6)) ≤ 99) (k7 : jT_K B sz (t + 7) = 115) (k8 : jT_K B sz (t + 8) = 2) (r8 : 1 ≤ jT_v B sz (jT_p B sz (t + 8)) ∧ jT_v B sz (jT_p B sz (t + 8)) ≤ 31) (k9 : ¬ jT_K B sz (t + 9) = 116) (k : ∀ h', jMF β h0 h' → jh_I h' 11 0 4 = jX_kd (jT_K B sz (t + 9)) → jPl h' (jT_p B sz (t + 9)) → Q none h')  : jx_Ev jm_MD_readDue (d + 8) 0 0 false 1 [jv_r 11 0] h Q := by
  show jx_W (jm_MD_readDue, d + 8, 0, 0, false, 1, _) Q 0 0 0 [some (jv_r 11 0), none] [] _
  obtain ⟨⟨t0, m0, f0, b0, -, -, -, -⟩, ⟨⟨a1, a2⟩, ⟨p1, p2⟩, ⟨c1, c2⟩, -⟩, -⟩ := id x
  have xb := b0
  have hr : ∀ j, j < V 0 2 → jh_L h 92 0 (12 * β + j) = jT_key (W 2 j) := fun j hj => (c2 j hj).2
  have hj2 := (jnF_lt _ _ _ j2).2.1
  have hj4 := (jnF_lt _ _ _ j4).2.1
  refine jr_ic rfl ?_
  refine jr_aload rfl rfl ?_
  refine jr_getI rfl rfl ?_
  refine jr_imul rfl ?_
  refine jr_aload rfl rfl ?_
  refine jr_getR rfl rfl rfl rfl (Or.inl rfl) ?_
  refine jr_aload rfl rfl ?_
  refine jr_getI rfl rfl ?_
  refine jr_iald (len := 2) rfl rfl b0 (by omega) ?_
  refine jr_iadd rfl ?_
  rw [xb, c1, show (12 : Int32) * nI β + nI (V 0 2) = nI (12 * β + V 0 2) from jn_add (jn_mul rfl rfl) rfl]
  refine jr_ist1 rfl rfl ?_
  refine jr_aload rfl rfl ?_
  refine jr_getR rfl rfl rfl rfl (Or.inl rfl) ?_
  refine jr_iload rfl rfl ?_
  refine jr_aload rfl rfl ?_
  refine jr_aload rfl rfl ?_
  refine jr_aload rfl rfl ?_
  refine jr_getR rfl rfl rfl rfl (Or.inl rfl) ?_
  refine jr_ic rfl ?_
  refine jr_aload rfl rfl ?_
  refine jr_getI rfl rfl ?_
  refine jr_imul rfl ?_
  refine jr_aload rfl rfl ?_
  refine jr_getR rfl rfl rfl rfl (Or.inl rfl) ?_
  refine jr_aload rfl rfl ?_
  refine jr_getI rfl rfl ?_
  refine jr_iald (len := 2) rfl rfl b0 (by omega) ?_
  rw [xb, c1, show (12 : Int32) * nI β = nI (12 * β) from jn_mul rfl rfl]
  refine jr_cv3 (mc' := 0) (ms' := 0) rfl jm_MD_here_n jm_MD_here_f rfl rfl rfl rfl rfl rfl rfl (Nat.zero_le _) (Nat.zero_le _) ?_
  refine eM_here_d m0 hβ hW hr (by omega) ?_
  rw [if_pos k0, n0]
  refine jr_cv1 (mc' := 0) (ms' := 0) rfl jm_MD_fresh_n jm_MD_fresh_f rfl rfl rfl rfl rfl rfl rfl (Nat.zero_le _) (Nat.zero_le _) ?_
  refine eM_fresh_y (B := B) (sz := sz) (t := t) t0 m0 f0 k0 (fun h1 g1 m1 => ?_)
  have t1 := jX_t_MG g1 t0
  have f1 : jh_I h1 11 0 4 = 0 := (g1.2.2.2 4 (by decide)).trans f0
  have b1 : jh_I h1 11 0 44 = nI β := (g1.2.2.2 44 (by decide)).trans b0
  refine jr_last (len := 24) rfl rfl rfl (by omega) ?_
  refine jr_aload rfl rfl ?_
  refine jr_aload rfl rfl ?_
  refine jr_lc rfl ?_
  refine jr_cv1 (mc' := 0) (ms' := 0) rfl jm_MD_isWord_n jm_MD_isWord_f rfl rfl rfl rfl rfl rfl rfl (Nat.zero_le _) (Nat.zero_le _) ?_
  refine eM_isWord (B := B) (sz := sz) (t := t + 1) m1 (i := 13) (by decide) jT_W13 ?_
  refine jr_cv1 (mc' := 0) (ms' := 0) rfl jm_MD_must_n jm_MD_must_f rfl rfl rfl rfl rfl rfl rfl (Nat.zero_le _) (Nat.zero_le _) ?_
  refine eM_must_y (B := B) (sz := sz) (t := t + 1) t1 m1 f1 (by rw [if_pos k1]; decide) (fun h2 g2 m2 => ?_)
  have t2 := jX_t_MG g2 t1
  have f2 : jh_I h2 11 0 4 = 0 := (g2.2.2.2 4 (by decide)).trans f1
  have b2 : jh_I h2 11 0 44 = nI β := (g2.2.2.2 44 (by decide)).trans b1
  refine jr_aload rfl rfl ?_
  refine jr_getR rfl rfl rfl rfl (Or.inl rfl) ?_
  refine jr_iload rfl rfl ?_
  refine jr_aload rfl rfl ?_
  refine jr_aload rfl rfl ?_
  refine jr_cv0 (mc' := 0) (ms' := 0) rfl jm_MD_personHere_n jm_MD_personHere_f rfl rfl rfl rfl rfl rfl rfl (Nat.zero_le _) (Nat.zero_le _) ?_
  show jx_W (jm_MD_personHere, _, _, _, _, _, _) _ 0 0 0 [some _] [] _
  refine jr_aload rfl rfl ?_
  refine jr_aload rfl rfl ?_
  refine jr_getR rfl rfl rfl rfl (Or.inl rfl) ?_
  refine jr_ic rfl ?_
  refine jr_aload rfl rfl ?_
  refine jr_getI rfl rfl ?_
  refine jr_imul rfl ?_
  refine jr_aload rfl rfl ?_
  refine jr_getR rfl rfl rfl rfl (Or.inl rfl) ?_
  refine jr_aload rfl rfl ?_
  refine jr_getI rfl rfl ?_
  refine jr_iald (len := 2) rfl rfl (by first | exact b4 | exact b2) (by omega) ?_
  rw [show jh_I (h2) 11 0 44 = nI β from b2, show jh_I (h2) 67 0 β = nI (V 0 1) from (congrFun ((g2.1 67 0 (by decide)).trans (g1.1 67 0 (by decide))) β).trans p1, show (5 : Int32) * nI β = nI (5 * β) from jn_mul rfl rfl]
  refine jr_cv3 (mc' := 0) (ms' := 0) rfl jm_MD_here_n jm_MD_here_f rfl rfl rfl rfl rfl rfl rfl (Nat.zero_le _) (Nat.zero_le _) ?_
  refine eM_here_p (B := B) (sz := sz) (t := t + 2) m2 hβ hWp (fun j hj => (congrFun ((g2.2.1 91 0 (by decide)).trans (g1.2.1 91 0 (by decide))) _).trans ((p2 j hj).2)) (by omega) ?_
  refine jr_iret rfl rfl (Nat.zero_le _) (Nat.zero_le _) ?_
  rw [if_pos k2, j2]
  refine jr_cv1 (mc' := 0) (ms' := 0) rfl jm_MD_told_n jm_MD_told_f rfl rfl rfl rfl rfl rfl rfl (Nat.zero_le _) (Nat.zero_le _) ?_
  refine eM_told_y (j := a) (B := B) (sz := sz) (t := t + 2) t2 m2 f2 k2 (by omega) ?_
  refine jr_iast (len := 24) rfl rfl rfl (by omega) ?_
  refine jr_aload rfl rfl ?_
  refine jr_cv0 (mc' := 0) (ms' := 0) rfl jm_MD_isGood_n jm_MD_isGood_f rfl rfl rfl rfl rfl rfl rfl (Nat.zero_le _) (Nat.zero_le _) ?_
  show jx_W (jm_MD_isGood, _, _, _, _, _, _) _ 0 0 0 [some _] [] _
  refine jr_aload rfl rfl ?_
  refine jr_getI rfl rfl ?_
  refine jr_if_ne rfl (fun z => absurd f2 z) (fun _ => ?_)
  refine jr_ic rfl ?_
  refine jr_goto rfl ?_
  refine jr_zret rfl rfl rfl (Nat.zero_le _) (Nat.zero_le _) ?_
  refine jr_if_eq rfl (fun z => absurd z (by decide)) (fun _ => ?_)
  refine jr_aload rfl rfl ?_
  refine jr_cv0 (mc' := 0) (ms' := 0) rfl jm_MD_goOn_n jm_MD_goOn_f rfl rfl rfl rfl rfl rfl rfl (Nat.zero_le _) (Nat.zero_le _) ?_
  refine eM_goOn (B := B) (sz := sz) (t := t + 3) t2.1 t2.2.1 t2.2.2.1 m2.2.1 (fun h3 g3 m3 => ?_)
  have t3 := jX_t_MG g3 t2
  have f3 : jh_I h3 11 0 4 = 0 := (g3.2.2.2 4 (by decide)).trans f2
  have b3 : jh_I h3 11 0 44 = nI β := (g3.2.2.2 44 (by decide)).trans b2
  refine jr_aload rfl rfl ?_
  refine jr_aload rfl rfl ?_
  refine jr_lc rfl ?_
  refine jr_cv1 (mc' := 0) (ms' := 0) rfl jm_MD_isWord_n jm_MD_isWord_f rfl rfl rfl rfl rfl rfl rfl (Nat.zero_le _) (Nat.zero_le _) ?_
  refine eM_isWord (B := B) (sz := sz) (t := t + 3) m3 (i := 8) (by decide) jT_W8 ?_
  refine jr_cv1 (mc' := 0) (ms' := 0) rfl jm_MD_must_n jm_MD_must_f rfl rfl rfl rfl rfl rfl rfl (Nat.zero_le _) (Nat.zero_le _) ?_
  refine eM_must_y (B := B) (sz := sz) (t := t + 3) t3 m3 f3 (by rw [if_pos k3]; decide) (fun h4 g4 m4 => ?_)
  have t4 := jX_t_MG g4 t3
  have f4 : jh_I h4 11 0 4 = 0 := (g4.2.2.2 4 (by decide)).trans f3
  have b4 : jh_I h4 11 0 44 = nI β := (g4.2.2.2 44 (by decide)).trans b3
  refine jr_aload rfl rfl ?_
  refine jr_getR rfl rfl rfl rfl (Or.inl rfl) ?_
  refine jr_iload rfl rfl ?_
  refine jr_aload rfl rfl ?_
  refine jr_aload rfl rfl ?_
  refine jr_cv0 (mc' := 0) (ms' := 0) rfl jm_MD_personHere_n jm_MD_personHere_f rfl rfl rfl rfl rfl rfl rfl (Nat.zero_le _) (Nat.zero_le _) ?_
  show jx_W (jm_MD_personHere, _, _, _, _, _, _) _ 0 0 0 [some _] [] _
  refine jr_aload rfl rfl ?_
  refine jr_aload rfl rfl ?_
  refine jr_getR rfl rfl rfl rfl (Or.inl rfl) ?_
  refine jr_ic rfl ?_
  refine jr_aload rfl rfl ?_
  refine jr_getI rfl rfl ?_
  refine jr_imul rfl ?_
  refine jr_aload rfl rfl ?_
  refine jr_getR rfl rfl rfl rfl (Or.inl rfl) ?_
  refine jr_aload rfl rfl ?_
  refine jr_getI rfl rfl ?_
  refine jr_iald (len := 2) rfl rfl (by first | exact b4 | exact b2) (by omega) ?_
  rw [show jh_I (h4) 11 0 44 = nI β from b4, show jh_I (h4) 67 0 β = nI (V 0 1) from (congrFun ((g4.1 67 0 (by decide)).trans ((g3.1 67 0 (by decide)).trans ((g2.1 67 0 (by decide)).trans (g1.1 67 0 (by decide))))) β).trans p1, show (5 : Int32) * nI β = nI (5 * β) from jn_mul rfl rfl]
  refine jr_cv3 (mc' := 0) (ms' := 0) rfl jm_MD_here_n jm_MD_here_f rfl rfl rfl rfl rfl rfl rfl (Nat.zero_le _) (Nat.zero_le _) ?_
  refine eM_here_p (B := B) (sz := sz) (t := t + 4) m4 hβ hWp (fun j hj => (congrFun ((g4.2.1 91 0 (by decide)).trans ((g3.2.1 91 0 (by decide)).trans ((g2.2.1 91 0 (by decide)).trans (g1.2.1 91 0 (by decide))))) _).trans ((p2 j hj).2)) (by omega) ?_
  refine jr_iret rfl rfl (Nat.zero_le _) (Nat.zero_le _) ?_
  rw [if_pos k4, j4]
  refine jr_cv1 (mc' := 0) (ms' := 0) rfl jm_MD_told_n jm_MD_told_f rfl rfl rfl rfl rfl rfl rfl (Nat.zero_le _) (Nat.zero_le _) ?_
  refine eM_told_y (j := b) (B := B) (sz := sz) (t := t + 4) t4 m4 f4 k4 (by omega) ?_
  refine jr_iast (len := 24) rfl rfl rfl (by omega) ?_
  refine jr_aload rfl rfl ?_
  refine jr_cv0 (mc' := 0) (ms' := 0) rfl jm_MD_isGood_n jm_MD_isGood_f rfl rfl rfl rfl rfl rfl rfl (Nat.zero_le _) (Nat.zero_le _) ?_
  show jx_W (jm_MD_isGood, _, _, _, _, _, _) _ 0 0 0 [some _] [] _
  refine jr_aload rfl rfl ?_
  refine jr_getI rfl rfl ?_
  refine jr_if_ne rfl (fun z => absurd f4 z) (fun _ => ?_)
  refine jr_ic rfl ?_
  refine jr_goto rfl ?_
  refine jr_zret rfl rfl rfl (Nat.zero_le _) (Nat.zero_le _) ?_
  refine jr_if_eq rfl (fun z => absurd z (by decide)) (fun _ => ?_)
  refine jr_aload rfl rfl ?_
  refine jr_getR rfl rfl rfl rfl (Or.inl rfl) ?_
  refine jr_iload rfl rfl ?_
  refine jr_iald (len := 24) rfl rfl rfl (by omega) ?_
  rw [jg_Iuu]
  refine jr_aload rfl rfl ?_
  refine jr_getR rfl rfl rfl rfl (Or.inl rfl) ?_
  refine jr_iload rfl rfl ?_
  refine jr_iald (len := 24) rfl rfl rfl (by omega) ?_
  rw [show jh_I (ju_I (h4) 74 0 (upd (jh_I (h4) 74 0) ((12 * β + V 0 2)) (nI b))) 73 0 (12 * β + V 0 2) = nI a from (congrFun ((g4.1 73 0 (by decide)).trans ((g3.1 73 0 (by decide)).trans (congrArg (fun F => upd F ((12 * β + V 0 2)) (nI a)) ((g2.1 73 0 (by decide)).trans (g1.1 73 0 (by decide)))))) (12 * β + V 0 2)).trans (jg_us _ _ _)]
  refine jr_icmp_ne rfl (fun _ => ?_) (fun z => absurd z (fun y => i4 (jn_eq (show nI b = nI a from y) (by omega) (by omega))))
  refine jr_aload rfl rfl ?_
  refine jr_cv0 (mc' := 0) (ms' := 0) rfl jm_MD_isGood_n jm_MD_isGood_f rfl rfl rfl rfl rfl rfl rfl (Nat.zero_le _) (Nat.zero_le _) ?_
  show jx_W (jm_MD_isGood, _, _, _, _, _, _) _ 0 0 0 [some _] [] _
  refine jr_aload rfl rfl ?_
  refine jr_getI rfl rfl ?_
  refine jr_if_ne rfl (fun z => absurd f4 z) (fun _ => ?_)
  refine jr_ic rfl ?_
  refine jr_goto rfl ?_
  refine jr_zret rfl rfl rfl (Nat.zero_le _) (Nat.zero_le _) ?_
  refine jr_if_eq rfl (fun z => absurd z (by decide)) (fun _ => ?_)
  refine jr_aload rfl rfl ?_
  refine jr_cv0 (mc' := 0) (ms' := 0) rfl jm_MD_goOn_n jm_MD_goOn_f rfl rfl rfl rfl rfl rfl rfl (Nat.zero_le _) (Nat.zero_le _) ?_
  refine eM_goOn (B := B) (sz := sz) (t := t + 5) t4.1 t4.2.1 t4.2.2.1 m4.2.1 (fun h5 g5 m5 => ?_)
  have t5 := jX_t_MG g5 t4
  have f5 : jh_I h5 11 0 4 = 0 := (g5.2.2.2 4 (by decide)).trans f4
  have b5 : jh_I h5 11 0 44 = nI β := (g5.2.2.2 44 (by decide)).trans b4
  refine jr_aload rfl rfl ?_
  refine jr_getR rfl rfl rfl rfl (Or.inl rfl) ?_
  refine jr_iload rfl rfl ?_
  refine jr_aload rfl rfl ?_
  refine jr_lc rfl ?_
  refine jr_ic rfl ?_
  refine jr_ic rfl ?_
  refine jr_cv3 (mc' := 0) (ms' := 0) rfl jm_MD_after_n jm_MD_after_f rfl rfl rfl rfl rfl rfl rfl (Nat.zero_le _) (Nat.zero_le _) ?_
  show jx_W (jm_MD_after, _, _, _, _, _, _) _ 0 0 0 [some _, some _, none, some _, some _] [] _
  refine jr_aload rfl rfl ?_
  refine jr_aload rfl rfl ?_
  refine jr_lload rfl rfl ?_
  refine jr_cv1 (mc' := 0) (ms' := 0) rfl jm_MD_isWord_n jm_MD_isWord_f rfl rfl rfl rfl rfl rfl rfl (Nat.zero_le _) (Nat.zero_le _) ?_
  refine eM_isWord (B := B) (sz := sz) (t := t + 5) m5 (i := 14) (by decide) jT_W14 ?_
  refine jr_cv1 (mc' := 0) (ms' := 0) rfl jm_MD_must_n jm_MD_must_f rfl rfl rfl rfl rfl rfl rfl (Nat.zero_le _) (Nat.zero_le _) ?_
  refine eM_must_y (B := B) (sz := sz) (t := t + 5) t5 m5 f5 (by rw [if_pos k5]; decide) (fun h6 g6 m6 => ?_)
  have t6 := jX_t_MG g6 t5
  have f6 : jh_I h6 11 0 4 = 0 := (g6.2.2.2 4 (by decide)).trans f5
  have b6 : jh_I h6 11 0 44 = nI β := (g6.2.2.2 44 (by decide)).trans b5
  refine jr_aload rfl rfl ?_
  refine jr_iload rfl rfl ?_
  refine jr_iload rfl rfl ?_
  refine jr_cv2 (mc' := 0) (ms' := 0) rfl jm_MD_numeral_n jm_MD_numeral_f rfl rfl rfl rfl rfl rfl rfl (Nat.zero_le _) (Nat.zero_le _) ?_
  refine eM_num_y (B := B) (sz := sz) (lo := 1) (hi := 99) (t := t + 6) t6 m6 f6 (by omega) (by omega) k6 r6.1 r6.2 (fun h7 g7 m7 => ?_)
  have t7 := jX_t_MG g7 t6
  have f7 : jh_I h7 11 0 4 = 0 := (g7.2.2.2 4 (by decide)).trans f6
  have b7 : jh_I h7 11 0 44 = nI β := (g7.2.2.2 44 (by decide)).trans b6
  refine jr_iret rfl rfl (Nat.zero_le _) (Nat.zero_le _) ?_
  refine jr_iast (len := 24) rfl rfl rfl (by omega) ?_
  refine jr_aload rfl rfl ?_
  refine jr_getR rfl rfl rfl rfl (Or.inl rfl) ?_
  refine jr_iload rfl rfl ?_
  refine jr_aload rfl rfl ?_
  refine jr_lc rfl ?_
  refine jr_ic rfl ?_
  refine jr_ic rfl ?_
  refine jr_cv3 (mc' := 0) (ms' := 0) rfl jm_MD_after_n jm_MD_after_f rfl rfl rfl rfl rfl rfl rfl (Nat.zero_le _) (Nat.zero_le _) ?_
  show jx_W (jm_MD_after, _, _, _, _, _, _) _ 0 0 0 [some _, some _, none, some _, some _] [] _
  refine jr_aload rfl rfl ?_
  refine jr_aload rfl rfl ?_
  refine jr_lload rfl rfl ?_
  refine jr_cv1 (mc' := 0) (ms' := 0) rfl jm_MD_isWord_n jm_MD_isWord_f rfl rfl rfl rfl rfl rfl rfl (Nat.zero_le _) (Nat.zero_le _) ?_
  refine eM_isWord (B := B) (sz := sz) (t := t + 7) m7 (i := 15) (by decide) jT_W15 ?_
  refine jr_cv1 (mc' := 0) (ms' := 0) rfl jm_MD_must_n jm_MD_must_f rfl rfl rfl rfl rfl rfl rfl (Nat.zero_le _) (Nat.zero_le _) ?_
  refine eM_must_y (B := B) (sz := sz) (t := t + 7) t7 m7 f7 (by rw [if_pos k7]; decide) (fun h8 g8 m8 => ?_)
  have t8 := jX_t_MG g8 t7
  have f8 : jh_I h8 11 0 4 = 0 := (g8.2.2.2 4 (by decide)).trans f7
  have b8 : jh_I h8 11 0 44 = nI β := (g8.2.2.2 44 (by decide)).trans b7
  refine jr_aload rfl rfl ?_
  refine jr_iload rfl rfl ?_
  refine jr_iload rfl rfl ?_
  refine jr_cv2 (mc' := 0) (ms' := 0) rfl jm_MD_numeral_n jm_MD_numeral_f rfl rfl rfl rfl rfl rfl rfl (Nat.zero_le _) (Nat.zero_le _) ?_
  refine eM_num_y (B := B) (sz := sz) (lo := 1) (hi := 31) (t := t + 8) t8 m8 f8 (by omega) (by omega) k8 r8.1 r8.2 (fun h9 g9 m9 => ?_)
  have t9 := jX_t_MG g9 t8
  have f9 : jh_I h9 11 0 4 = 0 := (g9.2.2.2 4 (by decide)).trans f8
  have b9 : jh_I h9 11 0 44 = nI β := (g9.2.2.2 44 (by decide)).trans b8
  refine jr_iret rfl rfl (Nat.zero_le _) (Nat.zero_le _) ?_
  refine jr_iast (len := 24) rfl rfl rfl (by omega) ?_
  refine jr_aload rfl rfl ?_
  refine jr_aload rfl rfl ?_
  refine jr_lc rfl ?_
  refine jr_cv1 (mc' := 0) (ms' := 0) rfl jm_MD_isWord_n jm_MD_isWord_f rfl rfl rfl rfl rfl rfl rfl (Nat.zero_le _) (Nat.zero_le _) ?_
  refine eM_isWord (B := B) (sz := sz) (t := t + 9) m9 (i := 16) (by decide) jT_W16 ?_
  refine jr_cv1 (mc' := 0) (ms' := 0) rfl jm_MD_must_n jm_MD_must_f rfl rfl rfl rfl rfl rfl rfl (Nat.zero_le _) (Nat.zero_le _) ?_
  refine eM_must_n (B := B) (sz := sz) (t := t + 9) t9 m9 f9 (if_neg k9) (fun h10 g10 => ?_)
  have e10 : ¬ jh_I h10 11 0 4 = 0 := by rw [g10.2.2.2.1]; exact jX_kd_n _
  have m10 := jT_mc_ft g10 m9
  have b10 : jh_I h10 11 0 44 = nI β := (g10.2.2.1 44 (by decide) (by decide)).trans b9
  refine jr_aload rfl rfl ?_
  refine jr_getR rfl rfl rfl rfl (Or.inl rfl) ?_
  refine jr_iload rfl rfl ?_
  refine jr_aload rfl rfl ?_
  refine jr_aload rfl rfl ?_
  refine jr_aload rfl rfl ?_
  refine jr_getR rfl rfl rfl rfl (Or.inl rfl) ?_
  refine jr_ic rfl ?_
  refine jr_aload rfl rfl ?_
  refine jr_getI rfl rfl ?_
  refine jr_imul rfl ?_
  refine jr_aload rfl rfl ?_
  refine jr_getR rfl rfl rfl rfl (Or.inl rfl) ?_
  refine jr_aload rfl rfl ?_
  refine jr_getI rfl rfl ?_
  refine jr_iald (len := 2) rfl rfl b10 (by omega) ?_
  rw [show jh_I (h10) 11 0 44 = nI β from b10, show jh_I (h10) 66 0 β = nI (V 0 0) from (congrFun ((g10.1 66 0 (by decide)).trans ((g9.1 66 0 (by decide)).trans ((g8.1 66 0 (by decide)).trans ((g7.1 66 0 (by decide)).trans ((g6.1 66 0 (by decide)).trans ((g5.1 66 0 (by decide)).trans ((g4.1 66 0 (by decide)).trans ((g3.1 66 0 (by decide)).trans ((g2.1 66 0 (by decide)).trans (g1.1 66 0 (by decide))))))))))) β).trans a1, show (6 : Int32) * nI β = nI (6 * β) from jn_mul rfl rfl]
  refine jr_cv3 (mc' := 0) (ms' := 0) rfl jm_MD_here_n jm_MD_here_f rfl rfl rfl rfl rfl rfl rfl (Nat.zero_le _) (Nat.zero_le _) ?_
  refine eM_here_m (B := B) (sz := sz) (t := t + 9) m10 hβ hWm (fun j hj => (congrFun ((congrFun (congrFun (congrArg (·.1) g10.2.1) 90) 0).trans ((g9.2.1 90 0 (by decide)).trans ((g8.2.1 90 0 (by decide)).trans ((g7.2.1 90 0 (by decide)).trans ((g6.2.1 90 0 (by decide)).trans ((g5.2.1 90 0 (by decide)).trans ((g4.2.1 90 0 (by decide)).trans ((g3.2.1 90 0 (by decide)).trans ((g2.2.1 90 0 (by decide)).trans (g1.2.1 90 0 (by decide))))))))))) _).trans ((a2 j hj).2.2)) (by omega) ?_
  refine jr_cv1 (mc' := 0) (ms' := 0) rfl jm_MD_told_n jm_MD_told_f rfl rfl rfl rfl rfl rfl rfl (Nat.zero_le _) (Nat.zero_le _) ?_
  refine eM_told_b e10 ?_
  refine jr_iast (len := 24) rfl rfl rfl (by omega) ?_
  refine jr_aload rfl rfl ?_
  refine jr_cv0 (mc' := 0) (ms' := 0) rfl jm_MD_isGood_n jm_MD_isGood_f rfl rfl rfl rfl rfl rfl rfl (Nat.zero_le _) (Nat.zero_le _) ?_
  show jx_W (jm_MD_isGood, _, _, _, _, _, _) _ 0 0 0 [some _] [] _
  refine jr_aload rfl rfl ?_
  refine jr_getI rfl rfl ?_
  refine jr_if_ne rfl (fun _ => ?_) (fun z => absurd z e10)
  refine jr_ic rfl ?_
  refine jr_zret rfl rfl rfl (Nat.zero_le _) (Nat.zero_le _) ?_
  refine jr_if_eq rfl (fun _ => ?_) (fun z => absurd (by decide) z)
  refine jr_aload rfl rfl ?_
  refine jr_getR rfl rfl rfl rfl (Or.inl rfl) ?_
  refine jr_iload rfl rfl ?_
  refine jr_aload rfl rfl ?_
  refine jr_lc rfl ?_
  refine jr_cv1 (mc' := 0) (ms' := 0) rfl jm_MD_has_n jm_MD_has_f rfl rfl rfl rfl rfl rfl rfl (Nat.zero_le _) (Nat.zero_le _) ?_
  refine eM_has_b e10 ?_
  refine jr_zast (len := 24) rfl rfl rfl (by omega) ?_
  refine jr_aload rfl rfl ?_
  refine jr_getR rfl rfl rfl rfl (Or.inl rfl) ?_
  refine jr_aload rfl rfl ?_
  refine jr_getI rfl rfl ?_
  refine jr_dup2 rfl ?_
  refine jr_iald (len := 2) rfl rfl b10 (by omega) ?_
  refine jr_ic rfl ?_
  refine jr_iadd rfl ?_
  rw [show jh_I (ju_I (ju_I (h10) 77 0 (upd (jh_I (h10) 77 0) ((12 * β + V 0 2)) (0))) 84 0 (upd (jh_I (ju_I (h10) 77 0 (upd (jh_I (h10) 77 0) ((12 * β + V 0 2)) (0))) 84 0) ((12 * β + V 0 2)) (0 &&& 1))) 68 0 β = nI (V 0 2) from (congrFun ((g10.1 68 0 (by decide)).trans ((g9.1 68 0 (by decide)).trans ((g8.1 68 0 (by decide)).trans ((g7.1 68 0 (by decide)).trans ((g6.1 68 0 (by decide)).trans ((g5.1 68 0 (by decide)).trans ((g4.1 68 0 (by decide)).trans ((g3.1 68 0 (by decide)).trans ((g2.1 68 0 (by decide)).trans (g1.1 68 0 (by decide))))))))))) β).trans c1, show nI (V 0 2) + 1 = nI (V 0 2 + 1) from jn_S _]
  refine jr_iast (len := 2) rfl rfl b10 (by omega) ?_
  refine jr_vret rfl rfl (Nat.zero_le _) (Nat.zero_le _) ?_
  exact k _ (jMF_I (a := 68) (w := 1) (jMF_I (a := 84) (w := 12) (jMF_I (a := 77) (w := 12) (jMF_ft (jMF_I (a := 76) (w := 12) (jMF_G (jMF_G (jMF_I (a := 75) (w := 12) (jMF_G (jMF_G (jMF_G (jMF_I (a := 74) (w := 12) (jMF_G (jMF_G (jMF_I (a := 73) (w := 12) (jMF_G (jMF_L (a := 92) (w := 12) (jMF_G (F) g1) (by decide) (by decide) (by omega) (by omega)) g2) (by decide) (by decide) (by omega) (by omega)) g3) g4) (by decide) (by decide) (by omega) (by omega)) g5) g6) g7) (by decide) (by decide) (by omega) (by omega)) g8) g9) (by decide) (by decide) (by omega) (by omega)) g10) (by decide) (by decide) (by omega) (by omega)) (by decide) (by decide) (by omega) (by omega)) (by decide) (by decide) (by omega) (by omega)) g10.2.2.2.1 g10.2.2.2.2

set_option maxHeartbeats 800000 in
set_option maxRecDepth 100000 in
theorem eM_due_b16 {d : Nat} {h : jx_H} {Q : Option jx_V → jx_H → Prop} {h0 : jx_H} {B : Nat → Int32} {sz β t : Nat} {a b : Nat} {V : Nat → Nat → Nat} {W : Nat → Nat → List Nat} {D : Nat → Int32} (x : jML h B sz β t V W D) (F : jMF β h0 h) (hβ : β < 2) (hn : V 0 2 < 12) (h5 : V 0 1 ≤ 5) (h6 : V 0 0 ≤ 6) (hW : jnW (W 2) (V 0 2)) (hWp : jnW (W 1) (V 0 1)) (hWm : jnW (W 0) (V 0 0)) (k0 : jT_K B sz t = 3) (n0 : jnF (W 2) (jT_wd B sz (jT_p B sz t)) (V 0 2) 0 = none) (k1 : jT_K B sz (t + 1) = 113) (k2 : jT_K B sz (t + 2) = 3) (j2 : jnF (W 1) (jT_wd B sz (jT_p B sz (t + 2))) (V 0 1) 0 = some a) (k3 : jT_K B sz (t + 3) = 108) (k4 : jT_K B sz (t + 4) = 3) (j4 : jnF (W 1) (jT_wd B sz (jT_p B sz (t + 4))) (V 0 1) 0 = some b) (i4 : ¬ b = a) (k5 : jT_K B sz (t + 5) = 114) (k6 : jT_K B sz (t + 6) = 2) (r6 : 1 ≤ jT_v B sz (jT_p B sz (t + 6)) ∧ jT_v B sz (jT_p B sz (t + 6)) ≤ 99) (k7 : jT_K B sz (t + 7) = 115) (k8 : jT_K B sz (t + 8) = 2) (r8 : 1 ≤ jT_v B sz (jT_p B sz (t + 8)) ∧ jT_v B sz (jT_p B sz (t + 8)) ≤ 31) (k9 : jT_K B sz (t + 9) = 116) (k10 : ¬ jT_K B sz (t + 10) = 3) (k : ∀ h', jMF β h0 h' → jh_I h' 11 0 4 = jX_kd (jT_K B sz (t + 10)) → jPl h' (jT_p B sz (t + 10)) → Q none h')  : jx_Ev jm_MD_readDue (d + 8) 0 0 false 1 [jv_r 11 0] h Q := by
  show jx_W (jm_MD_readDue, d + 8, 0, 0, false, 1, _) Q 0 0 0 [some (jv_r 11 0), none] [] _
  obtain ⟨⟨t0, m0, f0, b0, -, -, -, -⟩, ⟨⟨a1, a2⟩, ⟨p1, p2⟩, ⟨c1, c2⟩, -⟩, -⟩ := id x
  have xb := b0
  have hr : ∀ j, j < V 0 2 → jh_L h 92 0 (12 * β + j) = jT_key (W 2 j) := fun j hj => (c2 j hj).2
  have hj2 := (jnF_lt _ _ _ j2).2.1
  have hj4 := (jnF_lt _ _ _ j4).2.1
  refine jr_ic rfl ?_
  refine jr_aload rfl rfl ?_
  refine jr_getI rfl rfl ?_
  refine jr_imul rfl ?_
  refine jr_aload rfl rfl ?_
  refine jr_getR rfl rfl rfl rfl (Or.inl rfl) ?_
  refine jr_aload rfl rfl ?_
  refine jr_getI rfl rfl ?_
  refine jr_iald (len := 2) rfl rfl b0 (by omega) ?_
  refine jr_iadd rfl ?_
  rw [xb, c1, show (12 : Int32) * nI β + nI (V 0 2) = nI (12 * β + V 0 2) from jn_add (jn_mul rfl rfl) rfl]
  refine jr_ist1 rfl rfl ?_
  refine jr_aload rfl rfl ?_
  refine jr_getR rfl rfl rfl rfl (Or.inl rfl) ?_
  refine jr_iload rfl rfl ?_
  refine jr_aload rfl rfl ?_
  refine jr_aload rfl rfl ?_
  refine jr_aload rfl rfl ?_
  refine jr_getR rfl rfl rfl rfl (Or.inl rfl) ?_
  refine jr_ic rfl ?_
  refine jr_aload rfl rfl ?_
  refine jr_getI rfl rfl ?_
  refine jr_imul rfl ?_
  refine jr_aload rfl rfl ?_
  refine jr_getR rfl rfl rfl rfl (Or.inl rfl) ?_
  refine jr_aload rfl rfl ?_
  refine jr_getI rfl rfl ?_
  refine jr_iald (len := 2) rfl rfl b0 (by omega) ?_
  rw [xb, c1, show (12 : Int32) * nI β = nI (12 * β) from jn_mul rfl rfl]
  refine jr_cv3 (mc' := 0) (ms' := 0) rfl jm_MD_here_n jm_MD_here_f rfl rfl rfl rfl rfl rfl rfl (Nat.zero_le _) (Nat.zero_le _) ?_
  refine eM_here_d m0 hβ hW hr (by omega) ?_
  rw [if_pos k0, n0]
  refine jr_cv1 (mc' := 0) (ms' := 0) rfl jm_MD_fresh_n jm_MD_fresh_f rfl rfl rfl rfl rfl rfl rfl (Nat.zero_le _) (Nat.zero_le _) ?_
  refine eM_fresh_y (B := B) (sz := sz) (t := t) t0 m0 f0 k0 (fun h1 g1 m1 => ?_)
  have t1 := jX_t_MG g1 t0
  have f1 : jh_I h1 11 0 4 = 0 := (g1.2.2.2 4 (by decide)).trans f0
  have b1 : jh_I h1 11 0 44 = nI β := (g1.2.2.2 44 (by decide)).trans b0
  refine jr_last (len := 24) rfl rfl rfl (by omega) ?_
  refine jr_aload rfl rfl ?_
  refine jr_aload rfl rfl ?_
  refine jr_lc rfl ?_
  refine jr_cv1 (mc' := 0) (ms' := 0) rfl jm_MD_isWord_n jm_MD_isWord_f rfl rfl rfl rfl rfl rfl rfl (Nat.zero_le _) (Nat.zero_le _) ?_
  refine eM_isWord (B := B) (sz := sz) (t := t + 1) m1 (i := 13) (by decide) jT_W13 ?_
  refine jr_cv1 (mc' := 0) (ms' := 0) rfl jm_MD_must_n jm_MD_must_f rfl rfl rfl rfl rfl rfl rfl (Nat.zero_le _) (Nat.zero_le _) ?_
  refine eM_must_y (B := B) (sz := sz) (t := t + 1) t1 m1 f1 (by rw [if_pos k1]; decide) (fun h2 g2 m2 => ?_)
  have t2 := jX_t_MG g2 t1
  have f2 : jh_I h2 11 0 4 = 0 := (g2.2.2.2 4 (by decide)).trans f1
  have b2 : jh_I h2 11 0 44 = nI β := (g2.2.2.2 44 (by decide)).trans b1
  refine jr_aload rfl rfl ?_
  refine jr_getR rfl rfl rfl rfl (Or.inl rfl) ?_
  refine jr_iload rfl rfl ?_
  refine jr_aload rfl rfl ?_
  refine jr_aload rfl rfl ?_
  refine jr_cv0 (mc' := 0) (ms' := 0) rfl jm_MD_personHere_n jm_MD_personHere_f rfl rfl rfl rfl rfl rfl rfl (Nat.zero_le _) (Nat.zero_le _) ?_
  show jx_W (jm_MD_personHere, _, _, _, _, _, _) _ 0 0 0 [some _] [] _
  refine jr_aload rfl rfl ?_
  refine jr_aload rfl rfl ?_
  refine jr_getR rfl rfl rfl rfl (Or.inl rfl) ?_
  refine jr_ic rfl ?_
  refine jr_aload rfl rfl ?_
  refine jr_getI rfl rfl ?_
  refine jr_imul rfl ?_
  refine jr_aload rfl rfl ?_
  refine jr_getR rfl rfl rfl rfl (Or.inl rfl) ?_
  refine jr_aload rfl rfl ?_
  refine jr_getI rfl rfl ?_
  refine jr_iald (len := 2) rfl rfl (by first | exact b4 | exact b2) (by omega) ?_
  rw [show jh_I (h2) 11 0 44 = nI β from b2, show jh_I (h2) 67 0 β = nI (V 0 1) from (congrFun ((g2.1 67 0 (by decide)).trans (g1.1 67 0 (by decide))) β).trans p1, show (5 : Int32) * nI β = nI (5 * β) from jn_mul rfl rfl]
  refine jr_cv3 (mc' := 0) (ms' := 0) rfl jm_MD_here_n jm_MD_here_f rfl rfl rfl rfl rfl rfl rfl (Nat.zero_le _) (Nat.zero_le _) ?_
  refine eM_here_p (B := B) (sz := sz) (t := t + 2) m2 hβ hWp (fun j hj => (congrFun ((g2.2.1 91 0 (by decide)).trans (g1.2.1 91 0 (by decide))) _).trans ((p2 j hj).2)) (by omega) ?_
  refine jr_iret rfl rfl (Nat.zero_le _) (Nat.zero_le _) ?_
  rw [if_pos k2, j2]
  refine jr_cv1 (mc' := 0) (ms' := 0) rfl jm_MD_told_n jm_MD_told_f rfl rfl rfl rfl rfl rfl rfl (Nat.zero_le _) (Nat.zero_le _) ?_
  refine eM_told_y (j := a) (B := B) (sz := sz) (t := t + 2) t2 m2 f2 k2 (by omega) ?_
  refine jr_iast (len := 24) rfl rfl rfl (by omega) ?_
  refine jr_aload rfl rfl ?_
  refine jr_cv0 (mc' := 0) (ms' := 0) rfl jm_MD_isGood_n jm_MD_isGood_f rfl rfl rfl rfl rfl rfl rfl (Nat.zero_le _) (Nat.zero_le _) ?_
  show jx_W (jm_MD_isGood, _, _, _, _, _, _) _ 0 0 0 [some _] [] _
  refine jr_aload rfl rfl ?_
  refine jr_getI rfl rfl ?_
  refine jr_if_ne rfl (fun z => absurd f2 z) (fun _ => ?_)
  refine jr_ic rfl ?_
  refine jr_goto rfl ?_
  refine jr_zret rfl rfl rfl (Nat.zero_le _) (Nat.zero_le _) ?_
  refine jr_if_eq rfl (fun z => absurd z (by decide)) (fun _ => ?_)
  refine jr_aload rfl rfl ?_
  refine jr_cv0 (mc' := 0) (ms' := 0) rfl jm_MD_goOn_n jm_MD_goOn_f rfl rfl rfl rfl rfl rfl rfl (Nat.zero_le _) (Nat.zero_le _) ?_
  refine eM_goOn (B := B) (sz := sz) (t := t + 3) t2.1 t2.2.1 t2.2.2.1 m2.2.1 (fun h3 g3 m3 => ?_)
  have t3 := jX_t_MG g3 t2
  have f3 : jh_I h3 11 0 4 = 0 := (g3.2.2.2 4 (by decide)).trans f2
  have b3 : jh_I h3 11 0 44 = nI β := (g3.2.2.2 44 (by decide)).trans b2
  refine jr_aload rfl rfl ?_
  refine jr_aload rfl rfl ?_
  refine jr_lc rfl ?_
  refine jr_cv1 (mc' := 0) (ms' := 0) rfl jm_MD_isWord_n jm_MD_isWord_f rfl rfl rfl rfl rfl rfl rfl (Nat.zero_le _) (Nat.zero_le _) ?_
  refine eM_isWord (B := B) (sz := sz) (t := t + 3) m3 (i := 8) (by decide) jT_W8 ?_
  refine jr_cv1 (mc' := 0) (ms' := 0) rfl jm_MD_must_n jm_MD_must_f rfl rfl rfl rfl rfl rfl rfl (Nat.zero_le _) (Nat.zero_le _) ?_
  refine eM_must_y (B := B) (sz := sz) (t := t + 3) t3 m3 f3 (by rw [if_pos k3]; decide) (fun h4 g4 m4 => ?_)
  have t4 := jX_t_MG g4 t3
  have f4 : jh_I h4 11 0 4 = 0 := (g4.2.2.2 4 (by decide)).trans f3
  have b4 : jh_I h4 11 0 44 = nI β := (g4.2.2.2 44 (by decide)).trans b3
  refine jr_aload rfl rfl ?_
  refine jr_getR rfl rfl rfl rfl (Or.inl rfl) ?_
  refine jr_iload rfl rfl ?_
  refine jr_aload rfl rfl ?_
  refine jr_aload rfl rfl ?_
  refine jr_cv0 (mc' := 0) (ms' := 0) rfl jm_MD_personHere_n jm_MD_personHere_f rfl rfl rfl rfl rfl rfl rfl (Nat.zero_le _) (Nat.zero_le _) ?_
  show jx_W (jm_MD_personHere, _, _, _, _, _, _) _ 0 0 0 [some _] [] _
  refine jr_aload rfl rfl ?_
  refine jr_aload rfl rfl ?_
  refine jr_getR rfl rfl rfl rfl (Or.inl rfl) ?_
  refine jr_ic rfl ?_
  refine jr_aload rfl rfl ?_
  refine jr_getI rfl rfl ?_
  refine jr_imul rfl ?_
  refine jr_aload rfl rfl ?_
  refine jr_getR rfl rfl rfl rfl (Or.inl rfl) ?_
  refine jr_aload rfl rfl ?_
  refine jr_getI rfl rfl ?_
  refine jr_iald (len := 2) rfl rfl (by first | exact b4 | exact b2) (by omega) ?_
  rw [show jh_I (h4) 11 0 44 = nI β from b4, show jh_I (h4) 67 0 β = nI (V 0 1) from (congrFun ((g4.1 67 0 (by decide)).trans ((g3.1 67 0 (by decide)).trans ((g2.1 67 0 (by decide)).trans (g1.1 67 0 (by decide))))) β).trans p1, show (5 : Int32) * nI β = nI (5 * β) from jn_mul rfl rfl]
  refine jr_cv3 (mc' := 0) (ms' := 0) rfl jm_MD_here_n jm_MD_here_f rfl rfl rfl rfl rfl rfl rfl (Nat.zero_le _) (Nat.zero_le _) ?_
  refine eM_here_p (B := B) (sz := sz) (t := t + 4) m4 hβ hWp (fun j hj => (congrFun ((g4.2.1 91 0 (by decide)).trans ((g3.2.1 91 0 (by decide)).trans ((g2.2.1 91 0 (by decide)).trans (g1.2.1 91 0 (by decide))))) _).trans ((p2 j hj).2)) (by omega) ?_
  refine jr_iret rfl rfl (Nat.zero_le _) (Nat.zero_le _) ?_
  rw [if_pos k4, j4]
  refine jr_cv1 (mc' := 0) (ms' := 0) rfl jm_MD_told_n jm_MD_told_f rfl rfl rfl rfl rfl rfl rfl (Nat.zero_le _) (Nat.zero_le _) ?_
  refine eM_told_y (j := b) (B := B) (sz := sz) (t := t + 4) t4 m4 f4 k4 (by omega) ?_
  refine jr_iast (len := 24) rfl rfl rfl (by omega) ?_
  refine jr_aload rfl rfl ?_
  refine jr_cv0 (mc' := 0) (ms' := 0) rfl jm_MD_isGood_n jm_MD_isGood_f rfl rfl rfl rfl rfl rfl rfl (Nat.zero_le _) (Nat.zero_le _) ?_
  show jx_W (jm_MD_isGood, _, _, _, _, _, _) _ 0 0 0 [some _] [] _
  refine jr_aload rfl rfl ?_
  refine jr_getI rfl rfl ?_
  refine jr_if_ne rfl (fun z => absurd f4 z) (fun _ => ?_)
  refine jr_ic rfl ?_
  refine jr_goto rfl ?_
  refine jr_zret rfl rfl rfl (Nat.zero_le _) (Nat.zero_le _) ?_
  refine jr_if_eq rfl (fun z => absurd z (by decide)) (fun _ => ?_)
  refine jr_aload rfl rfl ?_
  refine jr_getR rfl rfl rfl rfl (Or.inl rfl) ?_
  refine jr_iload rfl rfl ?_
  refine jr_iald (len := 24) rfl rfl rfl (by omega) ?_
  rw [jg_Iuu]
  refine jr_aload rfl rfl ?_
  refine jr_getR rfl rfl rfl rfl (Or.inl rfl) ?_
  refine jr_iload rfl rfl ?_
  refine jr_iald (len := 24) rfl rfl rfl (by omega) ?_
  rw [show jh_I (ju_I (h4) 74 0 (upd (jh_I (h4) 74 0) ((12 * β + V 0 2)) (nI b))) 73 0 (12 * β + V 0 2) = nI a from (congrFun ((g4.1 73 0 (by decide)).trans ((g3.1 73 0 (by decide)).trans (congrArg (fun F => upd F ((12 * β + V 0 2)) (nI a)) ((g2.1 73 0 (by decide)).trans (g1.1 73 0 (by decide)))))) (12 * β + V 0 2)).trans (jg_us _ _ _)]
  refine jr_icmp_ne rfl (fun _ => ?_) (fun z => absurd z (fun y => i4 (jn_eq (show nI b = nI a from y) (by omega) (by omega))))
  refine jr_aload rfl rfl ?_
  refine jr_cv0 (mc' := 0) (ms' := 0) rfl jm_MD_isGood_n jm_MD_isGood_f rfl rfl rfl rfl rfl rfl rfl (Nat.zero_le _) (Nat.zero_le _) ?_
  show jx_W (jm_MD_isGood, _, _, _, _, _, _) _ 0 0 0 [some _] [] _
  refine jr_aload rfl rfl ?_
  refine jr_getI rfl rfl ?_
  refine jr_if_ne rfl (fun z => absurd f4 z) (fun _ => ?_)
  refine jr_ic rfl ?_
  refine jr_goto rfl ?_
  refine jr_zret rfl rfl rfl (Nat.zero_le _) (Nat.zero_le _) ?_
  refine jr_if_eq rfl (fun z => absurd z (by decide)) (fun _ => ?_)
  refine jr_aload rfl rfl ?_
  refine jr_cv0 (mc' := 0) (ms' := 0) rfl jm_MD_goOn_n jm_MD_goOn_f rfl rfl rfl rfl rfl rfl rfl (Nat.zero_le _) (Nat.zero_le _) ?_
  refine eM_goOn (B := B) (sz := sz) (t := t + 5) t4.1 t4.2.1 t4.2.2.1 m4.2.1 (fun h5 g5 m5 => ?_)
  have t5 := jX_t_MG g5 t4
  have f5 : jh_I h5 11 0 4 = 0 := (g5.2.2.2 4 (by decide)).trans f4
  have b5 : jh_I h5 11 0 44 = nI β := (g5.2.2.2 44 (by decide)).trans b4
  refine jr_aload rfl rfl ?_
  refine jr_getR rfl rfl rfl rfl (Or.inl rfl) ?_
  refine jr_iload rfl rfl ?_
  refine jr_aload rfl rfl ?_
  refine jr_lc rfl ?_
  refine jr_ic rfl ?_
  refine jr_ic rfl ?_
  refine jr_cv3 (mc' := 0) (ms' := 0) rfl jm_MD_after_n jm_MD_after_f rfl rfl rfl rfl rfl rfl rfl (Nat.zero_le _) (Nat.zero_le _) ?_
  show jx_W (jm_MD_after, _, _, _, _, _, _) _ 0 0 0 [some _, some _, none, some _, some _] [] _
  refine jr_aload rfl rfl ?_
  refine jr_aload rfl rfl ?_
  refine jr_lload rfl rfl ?_
  refine jr_cv1 (mc' := 0) (ms' := 0) rfl jm_MD_isWord_n jm_MD_isWord_f rfl rfl rfl rfl rfl rfl rfl (Nat.zero_le _) (Nat.zero_le _) ?_
  refine eM_isWord (B := B) (sz := sz) (t := t + 5) m5 (i := 14) (by decide) jT_W14 ?_
  refine jr_cv1 (mc' := 0) (ms' := 0) rfl jm_MD_must_n jm_MD_must_f rfl rfl rfl rfl rfl rfl rfl (Nat.zero_le _) (Nat.zero_le _) ?_
  refine eM_must_y (B := B) (sz := sz) (t := t + 5) t5 m5 f5 (by rw [if_pos k5]; decide) (fun h6 g6 m6 => ?_)
  have t6 := jX_t_MG g6 t5
  have f6 : jh_I h6 11 0 4 = 0 := (g6.2.2.2 4 (by decide)).trans f5
  have b6 : jh_I h6 11 0 44 = nI β := (g6.2.2.2 44 (by decide)).trans b5
  refine jr_aload rfl rfl ?_
  refine jr_iload rfl rfl ?_
  refine jr_iload rfl rfl ?_
  refine jr_cv2 (mc' := 0) (ms' := 0) rfl jm_MD_numeral_n jm_MD_numeral_f rfl rfl rfl rfl rfl rfl rfl (Nat.zero_le _) (Nat.zero_le _) ?_
  refine eM_num_y (B := B) (sz := sz) (lo := 1) (hi := 99) (t := t + 6) t6 m6 f6 (by omega) (by omega) k6 r6.1 r6.2 (fun h7 g7 m7 => ?_)
  have t7 := jX_t_MG g7 t6
  have f7 : jh_I h7 11 0 4 = 0 := (g7.2.2.2 4 (by decide)).trans f6
  have b7 : jh_I h7 11 0 44 = nI β := (g7.2.2.2 44 (by decide)).trans b6
  refine jr_iret rfl rfl (Nat.zero_le _) (Nat.zero_le _) ?_
  refine jr_iast (len := 24) rfl rfl rfl (by omega) ?_
  refine jr_aload rfl rfl ?_
  refine jr_getR rfl rfl rfl rfl (Or.inl rfl) ?_
  refine jr_iload rfl rfl ?_
  refine jr_aload rfl rfl ?_
  refine jr_lc rfl ?_
  refine jr_ic rfl ?_
  refine jr_ic rfl ?_
  refine jr_cv3 (mc' := 0) (ms' := 0) rfl jm_MD_after_n jm_MD_after_f rfl rfl rfl rfl rfl rfl rfl (Nat.zero_le _) (Nat.zero_le _) ?_
  show jx_W (jm_MD_after, _, _, _, _, _, _) _ 0 0 0 [some _, some _, none, some _, some _] [] _
  refine jr_aload rfl rfl ?_
  refine jr_aload rfl rfl ?_
  refine jr_lload rfl rfl ?_
  refine jr_cv1 (mc' := 0) (ms' := 0) rfl jm_MD_isWord_n jm_MD_isWord_f rfl rfl rfl rfl rfl rfl rfl (Nat.zero_le _) (Nat.zero_le _) ?_
  refine eM_isWord (B := B) (sz := sz) (t := t + 7) m7 (i := 15) (by decide) jT_W15 ?_
  refine jr_cv1 (mc' := 0) (ms' := 0) rfl jm_MD_must_n jm_MD_must_f rfl rfl rfl rfl rfl rfl rfl (Nat.zero_le _) (Nat.zero_le _) ?_
  refine eM_must_y (B := B) (sz := sz) (t := t + 7) t7 m7 f7 (by rw [if_pos k7]; decide) (fun h8 g8 m8 => ?_)
  have t8 := jX_t_MG g8 t7
  have f8 : jh_I h8 11 0 4 = 0 := (g8.2.2.2 4 (by decide)).trans f7
  have b8 : jh_I h8 11 0 44 = nI β := (g8.2.2.2 44 (by decide)).trans b7
  refine jr_aload rfl rfl ?_
  refine jr_iload rfl rfl ?_
  refine jr_iload rfl rfl ?_
  refine jr_cv2 (mc' := 0) (ms' := 0) rfl jm_MD_numeral_n jm_MD_numeral_f rfl rfl rfl rfl rfl rfl rfl (Nat.zero_le _) (Nat.zero_le _) ?_
  refine eM_num_y (B := B) (sz := sz) (lo := 1) (hi := 31) (t := t + 8) t8 m8 f8 (by omega) (by omega) k8 r8.1 r8.2 (fun h9 g9 m9 => ?_)
  have t9 := jX_t_MG g9 t8
  have f9 : jh_I h9 11 0 4 = 0 := (g9.2.2.2 4 (by decide)).trans f8
  have b9 : jh_I h9 11 0 44 = nI β := (g9.2.2.2 44 (by decide)).trans b8
  refine jr_iret rfl rfl (Nat.zero_le _) (Nat.zero_le _) ?_
  refine jr_iast (len := 24) rfl rfl rfl (by omega) ?_
  refine jr_aload rfl rfl ?_
  refine jr_aload rfl rfl ?_
  refine jr_lc rfl ?_
  refine jr_cv1 (mc' := 0) (ms' := 0) rfl jm_MD_isWord_n jm_MD_isWord_f rfl rfl rfl rfl rfl rfl rfl (Nat.zero_le _) (Nat.zero_le _) ?_
  refine eM_isWord (B := B) (sz := sz) (t := t + 9) m9 (i := 16) (by decide) jT_W16 ?_
  refine jr_cv1 (mc' := 0) (ms' := 0) rfl jm_MD_must_n jm_MD_must_f rfl rfl rfl rfl rfl rfl rfl (Nat.zero_le _) (Nat.zero_le _) ?_
  refine eM_must_y (B := B) (sz := sz) (t := t + 9) t9 m9 f9 (by rw [if_pos k9]; decide) (fun h10 g10 m10 => ?_)
  have t10 := jX_t_MG g10 t9
  have f10 : jh_I h10 11 0 4 = 0 := (g10.2.2.2 4 (by decide)).trans f9
  have b10 : jh_I h10 11 0 44 = nI β := (g10.2.2.2 44 (by decide)).trans b9
  refine jr_aload rfl rfl ?_
  refine jr_getR rfl rfl rfl rfl (Or.inl rfl) ?_
  refine jr_iload rfl rfl ?_
  refine jr_aload rfl rfl ?_
  refine jr_aload rfl rfl ?_
  refine jr_aload rfl rfl ?_
  refine jr_getR rfl rfl rfl rfl (Or.inl rfl) ?_
  refine jr_ic rfl ?_
  refine jr_aload rfl rfl ?_
  refine jr_getI rfl rfl ?_
  refine jr_imul rfl ?_
  refine jr_aload rfl rfl ?_
  refine jr_getR rfl rfl rfl rfl (Or.inl rfl) ?_
  refine jr_aload rfl rfl ?_
  refine jr_getI rfl rfl ?_
  refine jr_iald (len := 2) rfl rfl b10 (by omega) ?_
  rw [show jh_I (h10) 11 0 44 = nI β from b10, show jh_I (h10) 66 0 β = nI (V 0 0) from (congrFun ((g10.1 66 0 (by decide)).trans ((g9.1 66 0 (by decide)).trans ((g8.1 66 0 (by decide)).trans ((g7.1 66 0 (by decide)).trans ((g6.1 66 0 (by decide)).trans ((g5.1 66 0 (by decide)).trans ((g4.1 66 0 (by decide)).trans ((g3.1 66 0 (by decide)).trans ((g2.1 66 0 (by decide)).trans (g1.1 66 0 (by decide))))))))))) β).trans a1, show (6 : Int32) * nI β = nI (6 * β) from jn_mul rfl rfl]
  refine jr_cv3 (mc' := 0) (ms' := 0) rfl jm_MD_here_n jm_MD_here_f rfl rfl rfl rfl rfl rfl rfl (Nat.zero_le _) (Nat.zero_le _) ?_
  refine eM_here_m (B := B) (sz := sz) (t := t + 10) m10 hβ hWm (fun j hj => (congrFun ((g10.2.1 90 0 (by decide)).trans ((g9.2.1 90 0 (by decide)).trans ((g8.2.1 90 0 (by decide)).trans ((g7.2.1 90 0 (by decide)).trans ((g6.2.1 90 0 (by decide)).trans ((g5.2.1 90 0 (by decide)).trans ((g4.2.1 90 0 (by decide)).trans ((g3.2.1 90 0 (by decide)).trans ((g2.2.1 90 0 (by decide)).trans (g1.2.1 90 0 (by decide))))))))))) _).trans ((a2 j hj).2.2)) (by omega) ?_
  rw [if_neg k10]
  refine jr_cv1 (mc' := 0) (ms' := 0) rfl jm_MD_told_n jm_MD_told_f rfl rfl rfl rfl rfl rfl rfl (Nat.zero_le _) (Nat.zero_le _) ?_
  refine eM_told_n (B := B) (sz := sz) (t := t + 10) t10 m10 f10 k10 (fun h11 g11 => ?_)
  have e11 : ¬ jh_I h11 11 0 4 = 0 := by rw [g11.2.2.2.1]; exact jX_kd_n _
  have m11 := jT_mc_ft g11 m10
  have b11 : jh_I h11 11 0 44 = nI β := (g11.2.2.1 44 (by decide) (by decide)).trans b10
  refine jr_iast (len := 24) rfl rfl rfl (by omega) ?_
  refine jr_aload rfl rfl ?_
  refine jr_cv0 (mc' := 0) (ms' := 0) rfl jm_MD_isGood_n jm_MD_isGood_f rfl rfl rfl rfl rfl rfl rfl (Nat.zero_le _) (Nat.zero_le _) ?_
  show jx_W (jm_MD_isGood, _, _, _, _, _, _) _ 0 0 0 [some _] [] _
  refine jr_aload rfl rfl ?_
  refine jr_getI rfl rfl ?_
  refine jr_if_ne rfl (fun _ => ?_) (fun z => absurd z e11)
  refine jr_ic rfl ?_
  refine jr_zret rfl rfl rfl (Nat.zero_le _) (Nat.zero_le _) ?_
  refine jr_if_eq rfl (fun _ => ?_) (fun z => absurd (by decide) z)
  refine jr_aload rfl rfl ?_
  refine jr_getR rfl rfl rfl rfl (Or.inl rfl) ?_
  refine jr_iload rfl rfl ?_
  refine jr_aload rfl rfl ?_
  refine jr_lc rfl ?_
  refine jr_cv1 (mc' := 0) (ms' := 0) rfl jm_MD_has_n jm_MD_has_f rfl rfl rfl rfl rfl rfl rfl (Nat.zero_le _) (Nat.zero_le _) ?_
  refine eM_has_b e11 ?_
  refine jr_zast (len := 24) rfl rfl rfl (by omega) ?_
  refine jr_aload rfl rfl ?_
  refine jr_getR rfl rfl rfl rfl (Or.inl rfl) ?_
  refine jr_aload rfl rfl ?_
  refine jr_getI rfl rfl ?_
  refine jr_dup2 rfl ?_
  refine jr_iald (len := 2) rfl rfl b11 (by omega) ?_
  refine jr_ic rfl ?_
  refine jr_iadd rfl ?_
  rw [show jh_I (ju_I (ju_I (h11) 77 0 (upd (jh_I (h11) 77 0) ((12 * β + V 0 2)) (0))) 84 0 (upd (jh_I (ju_I (h11) 77 0 (upd (jh_I (h11) 77 0) ((12 * β + V 0 2)) (0))) 84 0) ((12 * β + V 0 2)) (0 &&& 1))) 68 0 β = nI (V 0 2) from (congrFun ((g11.1 68 0 (by decide)).trans ((g10.1 68 0 (by decide)).trans ((g9.1 68 0 (by decide)).trans ((g8.1 68 0 (by decide)).trans ((g7.1 68 0 (by decide)).trans ((g6.1 68 0 (by decide)).trans ((g5.1 68 0 (by decide)).trans ((g4.1 68 0 (by decide)).trans ((g3.1 68 0 (by decide)).trans ((g2.1 68 0 (by decide)).trans (g1.1 68 0 (by decide)))))))))))) β).trans c1, show nI (V 0 2) + 1 = nI (V 0 2 + 1) from jn_S _]
  refine jr_iast (len := 2) rfl rfl b11 (by omega) ?_
  refine jr_vret rfl rfl (Nat.zero_le _) (Nat.zero_le _) ?_
  exact k _ (jMF_I (a := 68) (w := 1) (jMF_I (a := 84) (w := 12) (jMF_I (a := 77) (w := 12) (jMF_ft (jMF_G (jMF_I (a := 76) (w := 12) (jMF_G (jMF_G (jMF_I (a := 75) (w := 12) (jMF_G (jMF_G (jMF_G (jMF_I (a := 74) (w := 12) (jMF_G (jMF_G (jMF_I (a := 73) (w := 12) (jMF_G (jMF_L (a := 92) (w := 12) (jMF_G (F) g1) (by decide) (by decide) (by omega) (by omega)) g2) (by decide) (by decide) (by omega) (by omega)) g3) g4) (by decide) (by decide) (by omega) (by omega)) g5) g6) g7) (by decide) (by decide) (by omega) (by omega)) g8) g9) (by decide) (by decide) (by omega) (by omega)) g10) g11) (by decide) (by decide) (by omega) (by omega)) (by decide) (by decide) (by omega) (by omega)) (by decide) (by decide) (by omega) (by omega)) g11.2.2.2.1 g11.2.2.2.2

set_option maxHeartbeats 800000 in
set_option maxRecDepth 100000 in
theorem eM_due_b17 {d : Nat} {h : jx_H} {Q : Option jx_V → jx_H → Prop} {h0 : jx_H} {B : Nat → Int32} {sz β t : Nat} {a b : Nat} {V : Nat → Nat → Nat} {W : Nat → Nat → List Nat} {D : Nat → Int32} (x : jML h B sz β t V W D) (F : jMF β h0 h) (hβ : β < 2) (hn : V 0 2 < 12) (h5 : V 0 1 ≤ 5) (h6 : V 0 0 ≤ 6) (hW : jnW (W 2) (V 0 2)) (hWp : jnW (W 1) (V 0 1)) (hWm : jnW (W 0) (V 0 0)) (k0 : jT_K B sz t = 3) (n0 : jnF (W 2) (jT_wd B sz (jT_p B sz t)) (V 0 2) 0 = none) (k1 : jT_K B sz (t + 1) = 113) (k2 : jT_K B sz (t + 2) = 3) (j2 : jnF (W 1) (jT_wd B sz (jT_p B sz (t + 2))) (V 0 1) 0 = some a) (k3 : jT_K B sz (t + 3) = 108) (k4 : jT_K B sz (t + 4) = 3) (j4 : jnF (W 1) (jT_wd B sz (jT_p B sz (t + 4))) (V 0 1) 0 = some b) (i4 : ¬ b = a) (k5 : jT_K B sz (t + 5) = 114) (k6 : jT_K B sz (t + 6) = 2) (r6 : 1 ≤ jT_v B sz (jT_p B sz (t + 6)) ∧ jT_v B sz (jT_p B sz (t + 6)) ≤ 99) (k7 : jT_K B sz (t + 7) = 115) (k8 : jT_K B sz (t + 8) = 2) (r8 : 1 ≤ jT_v B sz (jT_p B sz (t + 8)) ∧ jT_v B sz (jT_p B sz (t + 8)) ≤ 31) (k9 : jT_K B sz (t + 9) = 116) (k10 : jT_K B sz (t + 10) = 3) (j10 : jnF (W 0) (jT_wd B sz (jT_p B sz (t + 10))) (V 0 0) 0 = none) (k : ∀ h', jMF β h0 h' → jh_I h' 11 0 4 = 5 → jPl h' (jT_p B sz (t + 10)) → Q none h')  : jx_Ev jm_MD_readDue (d + 8) 0 0 false 1 [jv_r 11 0] h Q := by
  show jx_W (jm_MD_readDue, d + 8, 0, 0, false, 1, _) Q 0 0 0 [some (jv_r 11 0), none] [] _
  obtain ⟨⟨t0, m0, f0, b0, -, -, -, -⟩, ⟨⟨a1, a2⟩, ⟨p1, p2⟩, ⟨c1, c2⟩, -⟩, -⟩ := id x
  have xb := b0
  have hr : ∀ j, j < V 0 2 → jh_L h 92 0 (12 * β + j) = jT_key (W 2 j) := fun j hj => (c2 j hj).2
  have hj2 := (jnF_lt _ _ _ j2).2.1
  have hj4 := (jnF_lt _ _ _ j4).2.1
  refine jr_ic rfl ?_
  refine jr_aload rfl rfl ?_
  refine jr_getI rfl rfl ?_
  refine jr_imul rfl ?_
  refine jr_aload rfl rfl ?_
  refine jr_getR rfl rfl rfl rfl (Or.inl rfl) ?_
  refine jr_aload rfl rfl ?_
  refine jr_getI rfl rfl ?_
  refine jr_iald (len := 2) rfl rfl b0 (by omega) ?_
  refine jr_iadd rfl ?_
  rw [xb, c1, show (12 : Int32) * nI β + nI (V 0 2) = nI (12 * β + V 0 2) from jn_add (jn_mul rfl rfl) rfl]
  refine jr_ist1 rfl rfl ?_
  refine jr_aload rfl rfl ?_
  refine jr_getR rfl rfl rfl rfl (Or.inl rfl) ?_
  refine jr_iload rfl rfl ?_
  refine jr_aload rfl rfl ?_
  refine jr_aload rfl rfl ?_
  refine jr_aload rfl rfl ?_
  refine jr_getR rfl rfl rfl rfl (Or.inl rfl) ?_
  refine jr_ic rfl ?_
  refine jr_aload rfl rfl ?_
  refine jr_getI rfl rfl ?_
  refine jr_imul rfl ?_
  refine jr_aload rfl rfl ?_
  refine jr_getR rfl rfl rfl rfl (Or.inl rfl) ?_
  refine jr_aload rfl rfl ?_
  refine jr_getI rfl rfl ?_
  refine jr_iald (len := 2) rfl rfl b0 (by omega) ?_
  rw [xb, c1, show (12 : Int32) * nI β = nI (12 * β) from jn_mul rfl rfl]
  refine jr_cv3 (mc' := 0) (ms' := 0) rfl jm_MD_here_n jm_MD_here_f rfl rfl rfl rfl rfl rfl rfl (Nat.zero_le _) (Nat.zero_le _) ?_
  refine eM_here_d m0 hβ hW hr (by omega) ?_
  rw [if_pos k0, n0]
  refine jr_cv1 (mc' := 0) (ms' := 0) rfl jm_MD_fresh_n jm_MD_fresh_f rfl rfl rfl rfl rfl rfl rfl (Nat.zero_le _) (Nat.zero_le _) ?_
  refine eM_fresh_y (B := B) (sz := sz) (t := t) t0 m0 f0 k0 (fun h1 g1 m1 => ?_)
  have t1 := jX_t_MG g1 t0
  have f1 : jh_I h1 11 0 4 = 0 := (g1.2.2.2 4 (by decide)).trans f0
  have b1 : jh_I h1 11 0 44 = nI β := (g1.2.2.2 44 (by decide)).trans b0
  refine jr_last (len := 24) rfl rfl rfl (by omega) ?_
  refine jr_aload rfl rfl ?_
  refine jr_aload rfl rfl ?_
  refine jr_lc rfl ?_
  refine jr_cv1 (mc' := 0) (ms' := 0) rfl jm_MD_isWord_n jm_MD_isWord_f rfl rfl rfl rfl rfl rfl rfl (Nat.zero_le _) (Nat.zero_le _) ?_
  refine eM_isWord (B := B) (sz := sz) (t := t + 1) m1 (i := 13) (by decide) jT_W13 ?_
  refine jr_cv1 (mc' := 0) (ms' := 0) rfl jm_MD_must_n jm_MD_must_f rfl rfl rfl rfl rfl rfl rfl (Nat.zero_le _) (Nat.zero_le _) ?_
  refine eM_must_y (B := B) (sz := sz) (t := t + 1) t1 m1 f1 (by rw [if_pos k1]; decide) (fun h2 g2 m2 => ?_)
  have t2 := jX_t_MG g2 t1
  have f2 : jh_I h2 11 0 4 = 0 := (g2.2.2.2 4 (by decide)).trans f1
  have b2 : jh_I h2 11 0 44 = nI β := (g2.2.2.2 44 (by decide)).trans b1
  refine jr_aload rfl rfl ?_
  refine jr_getR rfl rfl rfl rfl (Or.inl rfl) ?_
  refine jr_iload rfl rfl ?_
  refine jr_aload rfl rfl ?_
  refine jr_aload rfl rfl ?_
  refine jr_cv0 (mc' := 0) (ms' := 0) rfl jm_MD_personHere_n jm_MD_personHere_f rfl rfl rfl rfl rfl rfl rfl (Nat.zero_le _) (Nat.zero_le _) ?_
  show jx_W (jm_MD_personHere, _, _, _, _, _, _) _ 0 0 0 [some _] [] _
  refine jr_aload rfl rfl ?_
  refine jr_aload rfl rfl ?_
  refine jr_getR rfl rfl rfl rfl (Or.inl rfl) ?_
  refine jr_ic rfl ?_
  refine jr_aload rfl rfl ?_
  refine jr_getI rfl rfl ?_
  refine jr_imul rfl ?_
  refine jr_aload rfl rfl ?_
  refine jr_getR rfl rfl rfl rfl (Or.inl rfl) ?_
  refine jr_aload rfl rfl ?_
  refine jr_getI rfl rfl ?_
  refine jr_iald (len := 2) rfl rfl (by first | exact b4 | exact b2) (by omega) ?_
  rw [show jh_I (h2) 11 0 44 = nI β from b2, show jh_I (h2) 67 0 β = nI (V 0 1) from (congrFun ((g2.1 67 0 (by decide)).trans (g1.1 67 0 (by decide))) β).trans p1, show (5 : Int32) * nI β = nI (5 * β) from jn_mul rfl rfl]
  refine jr_cv3 (mc' := 0) (ms' := 0) rfl jm_MD_here_n jm_MD_here_f rfl rfl rfl rfl rfl rfl rfl (Nat.zero_le _) (Nat.zero_le _) ?_
  refine eM_here_p (B := B) (sz := sz) (t := t + 2) m2 hβ hWp (fun j hj => (congrFun ((g2.2.1 91 0 (by decide)).trans (g1.2.1 91 0 (by decide))) _).trans ((p2 j hj).2)) (by omega) ?_
  refine jr_iret rfl rfl (Nat.zero_le _) (Nat.zero_le _) ?_
  rw [if_pos k2, j2]
  refine jr_cv1 (mc' := 0) (ms' := 0) rfl jm_MD_told_n jm_MD_told_f rfl rfl rfl rfl rfl rfl rfl (Nat.zero_le _) (Nat.zero_le _) ?_
  refine eM_told_y (j := a) (B := B) (sz := sz) (t := t + 2) t2 m2 f2 k2 (by omega) ?_
  refine jr_iast (len := 24) rfl rfl rfl (by omega) ?_
  refine jr_aload rfl rfl ?_
  refine jr_cv0 (mc' := 0) (ms' := 0) rfl jm_MD_isGood_n jm_MD_isGood_f rfl rfl rfl rfl rfl rfl rfl (Nat.zero_le _) (Nat.zero_le _) ?_
  show jx_W (jm_MD_isGood, _, _, _, _, _, _) _ 0 0 0 [some _] [] _
  refine jr_aload rfl rfl ?_
  refine jr_getI rfl rfl ?_
  refine jr_if_ne rfl (fun z => absurd f2 z) (fun _ => ?_)
  refine jr_ic rfl ?_
  refine jr_goto rfl ?_
  refine jr_zret rfl rfl rfl (Nat.zero_le _) (Nat.zero_le _) ?_
  refine jr_if_eq rfl (fun z => absurd z (by decide)) (fun _ => ?_)
  refine jr_aload rfl rfl ?_
  refine jr_cv0 (mc' := 0) (ms' := 0) rfl jm_MD_goOn_n jm_MD_goOn_f rfl rfl rfl rfl rfl rfl rfl (Nat.zero_le _) (Nat.zero_le _) ?_
  refine eM_goOn (B := B) (sz := sz) (t := t + 3) t2.1 t2.2.1 t2.2.2.1 m2.2.1 (fun h3 g3 m3 => ?_)
  have t3 := jX_t_MG g3 t2
  have f3 : jh_I h3 11 0 4 = 0 := (g3.2.2.2 4 (by decide)).trans f2
  have b3 : jh_I h3 11 0 44 = nI β := (g3.2.2.2 44 (by decide)).trans b2
  refine jr_aload rfl rfl ?_
  refine jr_aload rfl rfl ?_
  refine jr_lc rfl ?_
  refine jr_cv1 (mc' := 0) (ms' := 0) rfl jm_MD_isWord_n jm_MD_isWord_f rfl rfl rfl rfl rfl rfl rfl (Nat.zero_le _) (Nat.zero_le _) ?_
  refine eM_isWord (B := B) (sz := sz) (t := t + 3) m3 (i := 8) (by decide) jT_W8 ?_
  refine jr_cv1 (mc' := 0) (ms' := 0) rfl jm_MD_must_n jm_MD_must_f rfl rfl rfl rfl rfl rfl rfl (Nat.zero_le _) (Nat.zero_le _) ?_
  refine eM_must_y (B := B) (sz := sz) (t := t + 3) t3 m3 f3 (by rw [if_pos k3]; decide) (fun h4 g4 m4 => ?_)
  have t4 := jX_t_MG g4 t3
  have f4 : jh_I h4 11 0 4 = 0 := (g4.2.2.2 4 (by decide)).trans f3
  have b4 : jh_I h4 11 0 44 = nI β := (g4.2.2.2 44 (by decide)).trans b3
  refine jr_aload rfl rfl ?_
  refine jr_getR rfl rfl rfl rfl (Or.inl rfl) ?_
  refine jr_iload rfl rfl ?_
  refine jr_aload rfl rfl ?_
  refine jr_aload rfl rfl ?_
  refine jr_cv0 (mc' := 0) (ms' := 0) rfl jm_MD_personHere_n jm_MD_personHere_f rfl rfl rfl rfl rfl rfl rfl (Nat.zero_le _) (Nat.zero_le _) ?_
  show jx_W (jm_MD_personHere, _, _, _, _, _, _) _ 0 0 0 [some _] [] _
  refine jr_aload rfl rfl ?_
  refine jr_aload rfl rfl ?_
  refine jr_getR rfl rfl rfl rfl (Or.inl rfl) ?_
  refine jr_ic rfl ?_
  refine jr_aload rfl rfl ?_
  refine jr_getI rfl rfl ?_
  refine jr_imul rfl ?_
  refine jr_aload rfl rfl ?_
  refine jr_getR rfl rfl rfl rfl (Or.inl rfl) ?_
  refine jr_aload rfl rfl ?_
  refine jr_getI rfl rfl ?_
  refine jr_iald (len := 2) rfl rfl (by first | exact b4 | exact b2) (by omega) ?_
  rw [show jh_I (h4) 11 0 44 = nI β from b4, show jh_I (h4) 67 0 β = nI (V 0 1) from (congrFun ((g4.1 67 0 (by decide)).trans ((g3.1 67 0 (by decide)).trans ((g2.1 67 0 (by decide)).trans (g1.1 67 0 (by decide))))) β).trans p1, show (5 : Int32) * nI β = nI (5 * β) from jn_mul rfl rfl]
  refine jr_cv3 (mc' := 0) (ms' := 0) rfl jm_MD_here_n jm_MD_here_f rfl rfl rfl rfl rfl rfl rfl (Nat.zero_le _) (Nat.zero_le _) ?_
  refine eM_here_p (B := B) (sz := sz) (t := t + 4) m4 hβ hWp (fun j hj => (congrFun ((g4.2.1 91 0 (by decide)).trans ((g3.2.1 91 0 (by decide)).trans ((g2.2.1 91 0 (by decide)).trans (g1.2.1 91 0 (by decide))))) _).trans ((p2 j hj).2)) (by omega) ?_
  refine jr_iret rfl rfl (Nat.zero_le _) (Nat.zero_le _) ?_
  rw [if_pos k4, j4]
  refine jr_cv1 (mc' := 0) (ms' := 0) rfl jm_MD_told_n jm_MD_told_f rfl rfl rfl rfl rfl rfl rfl (Nat.zero_le _) (Nat.zero_le _) ?_
  refine eM_told_y (j := b) (B := B) (sz := sz) (t := t + 4) t4 m4 f4 k4 (by omega) ?_
  refine jr_iast (len := 24) rfl rfl rfl (by omega) ?_
  refine jr_aload rfl rfl ?_
  refine jr_cv0 (mc' := 0) (ms' := 0) rfl jm_MD_isGood_n jm_MD_isGood_f rfl rfl rfl rfl rfl rfl rfl (Nat.zero_le _) (Nat.zero_le _) ?_
  show jx_W (jm_MD_isGood, _, _, _, _, _, _) _ 0 0 0 [some _] [] _
  refine jr_aload rfl rfl ?_
  refine jr_getI rfl rfl ?_
  refine jr_if_ne rfl (fun z => absurd f4 z) (fun _ => ?_)
  refine jr_ic rfl ?_
  refine jr_goto rfl ?_
  refine jr_zret rfl rfl rfl (Nat.zero_le _) (Nat.zero_le _) ?_
  refine jr_if_eq rfl (fun z => absurd z (by decide)) (fun _ => ?_)
  refine jr_aload rfl rfl ?_
  refine jr_getR rfl rfl rfl rfl (Or.inl rfl) ?_
  refine jr_iload rfl rfl ?_
  refine jr_iald (len := 24) rfl rfl rfl (by omega) ?_
  rw [jg_Iuu]
  refine jr_aload rfl rfl ?_
  refine jr_getR rfl rfl rfl rfl (Or.inl rfl) ?_
  refine jr_iload rfl rfl ?_
  refine jr_iald (len := 24) rfl rfl rfl (by omega) ?_
  rw [show jh_I (ju_I (h4) 74 0 (upd (jh_I (h4) 74 0) ((12 * β + V 0 2)) (nI b))) 73 0 (12 * β + V 0 2) = nI a from (congrFun ((g4.1 73 0 (by decide)).trans ((g3.1 73 0 (by decide)).trans (congrArg (fun F => upd F ((12 * β + V 0 2)) (nI a)) ((g2.1 73 0 (by decide)).trans (g1.1 73 0 (by decide)))))) (12 * β + V 0 2)).trans (jg_us _ _ _)]
  refine jr_icmp_ne rfl (fun _ => ?_) (fun z => absurd z (fun y => i4 (jn_eq (show nI b = nI a from y) (by omega) (by omega))))
  refine jr_aload rfl rfl ?_
  refine jr_cv0 (mc' := 0) (ms' := 0) rfl jm_MD_isGood_n jm_MD_isGood_f rfl rfl rfl rfl rfl rfl rfl (Nat.zero_le _) (Nat.zero_le _) ?_
  show jx_W (jm_MD_isGood, _, _, _, _, _, _) _ 0 0 0 [some _] [] _
  refine jr_aload rfl rfl ?_
  refine jr_getI rfl rfl ?_
  refine jr_if_ne rfl (fun z => absurd f4 z) (fun _ => ?_)
  refine jr_ic rfl ?_
  refine jr_goto rfl ?_
  refine jr_zret rfl rfl rfl (Nat.zero_le _) (Nat.zero_le _) ?_
  refine jr_if_eq rfl (fun z => absurd z (by decide)) (fun _ => ?_)
  refine jr_aload rfl rfl ?_
  refine jr_cv0 (mc' := 0) (ms' := 0) rfl jm_MD_goOn_n jm_MD_goOn_f rfl rfl rfl rfl rfl rfl rfl (Nat.zero_le _) (Nat.zero_le _) ?_
  refine eM_goOn (B := B) (sz := sz) (t := t + 5) t4.1 t4.2.1 t4.2.2.1 m4.2.1 (fun h5 g5 m5 => ?_)
  have t5 := jX_t_MG g5 t4
  have f5 : jh_I h5 11 0 4 = 0 := (g5.2.2.2 4 (by decide)).trans f4
  have b5 : jh_I h5 11 0 44 = nI β := (g5.2.2.2 44 (by decide)).trans b4
  refine jr_aload rfl rfl ?_
  refine jr_getR rfl rfl rfl rfl (Or.inl rfl) ?_
  refine jr_iload rfl rfl ?_
  refine jr_aload rfl rfl ?_
  refine jr_lc rfl ?_
  refine jr_ic rfl ?_
  refine jr_ic rfl ?_
  refine jr_cv3 (mc' := 0) (ms' := 0) rfl jm_MD_after_n jm_MD_after_f rfl rfl rfl rfl rfl rfl rfl (Nat.zero_le _) (Nat.zero_le _) ?_
  show jx_W (jm_MD_after, _, _, _, _, _, _) _ 0 0 0 [some _, some _, none, some _, some _] [] _
  refine jr_aload rfl rfl ?_
  refine jr_aload rfl rfl ?_
  refine jr_lload rfl rfl ?_
  refine jr_cv1 (mc' := 0) (ms' := 0) rfl jm_MD_isWord_n jm_MD_isWord_f rfl rfl rfl rfl rfl rfl rfl (Nat.zero_le _) (Nat.zero_le _) ?_
  refine eM_isWord (B := B) (sz := sz) (t := t + 5) m5 (i := 14) (by decide) jT_W14 ?_
  refine jr_cv1 (mc' := 0) (ms' := 0) rfl jm_MD_must_n jm_MD_must_f rfl rfl rfl rfl rfl rfl rfl (Nat.zero_le _) (Nat.zero_le _) ?_
  refine eM_must_y (B := B) (sz := sz) (t := t + 5) t5 m5 f5 (by rw [if_pos k5]; decide) (fun h6 g6 m6 => ?_)
  have t6 := jX_t_MG g6 t5
  have f6 : jh_I h6 11 0 4 = 0 := (g6.2.2.2 4 (by decide)).trans f5
  have b6 : jh_I h6 11 0 44 = nI β := (g6.2.2.2 44 (by decide)).trans b5
  refine jr_aload rfl rfl ?_
  refine jr_iload rfl rfl ?_
  refine jr_iload rfl rfl ?_
  refine jr_cv2 (mc' := 0) (ms' := 0) rfl jm_MD_numeral_n jm_MD_numeral_f rfl rfl rfl rfl rfl rfl rfl (Nat.zero_le _) (Nat.zero_le _) ?_
  refine eM_num_y (B := B) (sz := sz) (lo := 1) (hi := 99) (t := t + 6) t6 m6 f6 (by omega) (by omega) k6 r6.1 r6.2 (fun h7 g7 m7 => ?_)
  have t7 := jX_t_MG g7 t6
  have f7 : jh_I h7 11 0 4 = 0 := (g7.2.2.2 4 (by decide)).trans f6
  have b7 : jh_I h7 11 0 44 = nI β := (g7.2.2.2 44 (by decide)).trans b6
  refine jr_iret rfl rfl (Nat.zero_le _) (Nat.zero_le _) ?_
  refine jr_iast (len := 24) rfl rfl rfl (by omega) ?_
  refine jr_aload rfl rfl ?_
  refine jr_getR rfl rfl rfl rfl (Or.inl rfl) ?_
  refine jr_iload rfl rfl ?_
  refine jr_aload rfl rfl ?_
  refine jr_lc rfl ?_
  refine jr_ic rfl ?_
  refine jr_ic rfl ?_
  refine jr_cv3 (mc' := 0) (ms' := 0) rfl jm_MD_after_n jm_MD_after_f rfl rfl rfl rfl rfl rfl rfl (Nat.zero_le _) (Nat.zero_le _) ?_
  show jx_W (jm_MD_after, _, _, _, _, _, _) _ 0 0 0 [some _, some _, none, some _, some _] [] _
  refine jr_aload rfl rfl ?_
  refine jr_aload rfl rfl ?_
  refine jr_lload rfl rfl ?_
  refine jr_cv1 (mc' := 0) (ms' := 0) rfl jm_MD_isWord_n jm_MD_isWord_f rfl rfl rfl rfl rfl rfl rfl (Nat.zero_le _) (Nat.zero_le _) ?_
  refine eM_isWord (B := B) (sz := sz) (t := t + 7) m7 (i := 15) (by decide) jT_W15 ?_
  refine jr_cv1 (mc' := 0) (ms' := 0) rfl jm_MD_must_n jm_MD_must_f rfl rfl rfl rfl rfl rfl rfl (Nat.zero_le _) (Nat.zero_le _) ?_
  refine eM_must_y (B := B) (sz := sz) (t := t + 7) t7 m7 f7 (by rw [if_pos k7]; decide) (fun h8 g8 m8 => ?_)
  have t8 := jX_t_MG g8 t7
  have f8 : jh_I h8 11 0 4 = 0 := (g8.2.2.2 4 (by decide)).trans f7
  have b8 : jh_I h8 11 0 44 = nI β := (g8.2.2.2 44 (by decide)).trans b7
  refine jr_aload rfl rfl ?_
  refine jr_iload rfl rfl ?_
  refine jr_iload rfl rfl ?_
  refine jr_cv2 (mc' := 0) (ms' := 0) rfl jm_MD_numeral_n jm_MD_numeral_f rfl rfl rfl rfl rfl rfl rfl (Nat.zero_le _) (Nat.zero_le _) ?_
  refine eM_num_y (B := B) (sz := sz) (lo := 1) (hi := 31) (t := t + 8) t8 m8 f8 (by omega) (by omega) k8 r8.1 r8.2 (fun h9 g9 m9 => ?_)
  have t9 := jX_t_MG g9 t8
  have f9 : jh_I h9 11 0 4 = 0 := (g9.2.2.2 4 (by decide)).trans f8
  have b9 : jh_I h9 11 0 44 = nI β := (g9.2.2.2 44 (by decide)).trans b8
  refine jr_iret rfl rfl (Nat.zero_le _) (Nat.zero_le _) ?_
  refine jr_iast (len := 24) rfl rfl rfl (by omega) ?_
  refine jr_aload rfl rfl ?_
  refine jr_aload rfl rfl ?_
  refine jr_lc rfl ?_
  refine jr_cv1 (mc' := 0) (ms' := 0) rfl jm_MD_isWord_n jm_MD_isWord_f rfl rfl rfl rfl rfl rfl rfl (Nat.zero_le _) (Nat.zero_le _) ?_
  refine eM_isWord (B := B) (sz := sz) (t := t + 9) m9 (i := 16) (by decide) jT_W16 ?_
  refine jr_cv1 (mc' := 0) (ms' := 0) rfl jm_MD_must_n jm_MD_must_f rfl rfl rfl rfl rfl rfl rfl (Nat.zero_le _) (Nat.zero_le _) ?_
  refine eM_must_y (B := B) (sz := sz) (t := t + 9) t9 m9 f9 (by rw [if_pos k9]; decide) (fun h10 g10 m10 => ?_)
  have t10 := jX_t_MG g10 t9
  have f10 : jh_I h10 11 0 4 = 0 := (g10.2.2.2 4 (by decide)).trans f9
  have b10 : jh_I h10 11 0 44 = nI β := (g10.2.2.2 44 (by decide)).trans b9
  refine jr_aload rfl rfl ?_
  refine jr_getR rfl rfl rfl rfl (Or.inl rfl) ?_
  refine jr_iload rfl rfl ?_
  refine jr_aload rfl rfl ?_
  refine jr_aload rfl rfl ?_
  refine jr_aload rfl rfl ?_
  refine jr_getR rfl rfl rfl rfl (Or.inl rfl) ?_
  refine jr_ic rfl ?_
  refine jr_aload rfl rfl ?_
  refine jr_getI rfl rfl ?_
  refine jr_imul rfl ?_
  refine jr_aload rfl rfl ?_
  refine jr_getR rfl rfl rfl rfl (Or.inl rfl) ?_
  refine jr_aload rfl rfl ?_
  refine jr_getI rfl rfl ?_
  refine jr_iald (len := 2) rfl rfl b10 (by omega) ?_
  rw [show jh_I (h10) 11 0 44 = nI β from b10, show jh_I (h10) 66 0 β = nI (V 0 0) from (congrFun ((g10.1 66 0 (by decide)).trans ((g9.1 66 0 (by decide)).trans ((g8.1 66 0 (by decide)).trans ((g7.1 66 0 (by decide)).trans ((g6.1 66 0 (by decide)).trans ((g5.1 66 0 (by decide)).trans ((g4.1 66 0 (by decide)).trans ((g3.1 66 0 (by decide)).trans ((g2.1 66 0 (by decide)).trans (g1.1 66 0 (by decide))))))))))) β).trans a1, show (6 : Int32) * nI β = nI (6 * β) from jn_mul rfl rfl]
  refine jr_cv3 (mc' := 0) (ms' := 0) rfl jm_MD_here_n jm_MD_here_f rfl rfl rfl rfl rfl rfl rfl (Nat.zero_le _) (Nat.zero_le _) ?_
  refine eM_here_m (B := B) (sz := sz) (t := t + 10) m10 hβ hWm (fun j hj => (congrFun ((g10.2.1 90 0 (by decide)).trans ((g9.2.1 90 0 (by decide)).trans ((g8.2.1 90 0 (by decide)).trans ((g7.2.1 90 0 (by decide)).trans ((g6.2.1 90 0 (by decide)).trans ((g5.2.1 90 0 (by decide)).trans ((g4.2.1 90 0 (by decide)).trans ((g3.2.1 90 0 (by decide)).trans ((g2.2.1 90 0 (by decide)).trans (g1.2.1 90 0 (by decide))))))))))) _).trans ((a2 j hj).2.2)) (by omega) ?_
  rw [if_pos k10, j10]
  refine jr_cv1 (mc' := 0) (ms' := 0) rfl jm_MD_told_n jm_MD_told_f rfl rfl rfl rfl rfl rfl rfl (Nat.zero_le _) (Nat.zero_le _) ?_
  refine eM_told_u (B := B) (sz := sz) (t := t + 10) t10 m10 f10 k10 (fun h11 g11 => ?_)
  have e11 : ¬ jh_I h11 11 0 4 = 0 := by rw [g11.2.2.2.1]; exact (by decide)
  have m11 := jT_mc_ft g11 m10
  have b11 : jh_I h11 11 0 44 = nI β := (g11.2.2.1 44 (by decide) (by decide)).trans b10
  refine jr_iast (len := 24) rfl rfl rfl (by omega) ?_
  refine jr_aload rfl rfl ?_
  refine jr_cv0 (mc' := 0) (ms' := 0) rfl jm_MD_isGood_n jm_MD_isGood_f rfl rfl rfl rfl rfl rfl rfl (Nat.zero_le _) (Nat.zero_le _) ?_
  show jx_W (jm_MD_isGood, _, _, _, _, _, _) _ 0 0 0 [some _] [] _
  refine jr_aload rfl rfl ?_
  refine jr_getI rfl rfl ?_
  refine jr_if_ne rfl (fun _ => ?_) (fun z => absurd z e11)
  refine jr_ic rfl ?_
  refine jr_zret rfl rfl rfl (Nat.zero_le _) (Nat.zero_le _) ?_
  refine jr_if_eq rfl (fun _ => ?_) (fun z => absurd (by decide) z)
  refine jr_aload rfl rfl ?_
  refine jr_getR rfl rfl rfl rfl (Or.inl rfl) ?_
  refine jr_iload rfl rfl ?_
  refine jr_aload rfl rfl ?_
  refine jr_lc rfl ?_
  refine jr_cv1 (mc' := 0) (ms' := 0) rfl jm_MD_has_n jm_MD_has_f rfl rfl rfl rfl rfl rfl rfl (Nat.zero_le _) (Nat.zero_le _) ?_
  refine eM_has_b e11 ?_
  refine jr_zast (len := 24) rfl rfl rfl (by omega) ?_
  refine jr_aload rfl rfl ?_
  refine jr_getR rfl rfl rfl rfl (Or.inl rfl) ?_
  refine jr_aload rfl rfl ?_
  refine jr_getI rfl rfl ?_
  refine jr_dup2 rfl ?_
  refine jr_iald (len := 2) rfl rfl b11 (by omega) ?_
  refine jr_ic rfl ?_
  refine jr_iadd rfl ?_
  rw [show jh_I (ju_I (ju_I (h11) 77 0 (upd (jh_I (h11) 77 0) ((12 * β + V 0 2)) (0))) 84 0 (upd (jh_I (ju_I (h11) 77 0 (upd (jh_I (h11) 77 0) ((12 * β + V 0 2)) (0))) 84 0) ((12 * β + V 0 2)) (0 &&& 1))) 68 0 β = nI (V 0 2) from (congrFun ((g11.1 68 0 (by decide)).trans ((g10.1 68 0 (by decide)).trans ((g9.1 68 0 (by decide)).trans ((g8.1 68 0 (by decide)).trans ((g7.1 68 0 (by decide)).trans ((g6.1 68 0 (by decide)).trans ((g5.1 68 0 (by decide)).trans ((g4.1 68 0 (by decide)).trans ((g3.1 68 0 (by decide)).trans ((g2.1 68 0 (by decide)).trans (g1.1 68 0 (by decide)))))))))))) β).trans c1, show nI (V 0 2) + 1 = nI (V 0 2 + 1) from jn_S _]
  refine jr_iast (len := 2) rfl rfl b11 (by omega) ?_
  refine jr_vret rfl rfl (Nat.zero_le _) (Nat.zero_le _) ?_
  exact k _ (jMF_I (a := 68) (w := 1) (jMF_I (a := 84) (w := 12) (jMF_I (a := 77) (w := 12) (jMF_ft (jMF_G (jMF_I (a := 76) (w := 12) (jMF_G (jMF_G (jMF_I (a := 75) (w := 12) (jMF_G (jMF_G (jMF_G (jMF_I (a := 74) (w := 12) (jMF_G (jMF_G (jMF_I (a := 73) (w := 12) (jMF_G (jMF_L (a := 92) (w := 12) (jMF_G (F) g1) (by decide) (by decide) (by omega) (by omega)) g2) (by decide) (by decide) (by omega) (by omega)) g3) g4) (by decide) (by decide) (by omega) (by omega)) g5) g6) g7) (by decide) (by decide) (by omega) (by omega)) g8) g9) (by decide) (by decide) (by omega) (by omega)) g10) g11) (by decide) (by decide) (by omega) (by omega)) (by decide) (by decide) (by omega) (by omega)) (by decide) (by decide) (by omega) (by omega)) g11.2.2.2.1 g11.2.2.2.2

set_option maxHeartbeats 800000 in
set_option maxRecDepth 100000 in
theorem eM_due_g0 {d : Nat} {h : jx_H} {Q : Option jx_V → jx_H → Prop} {h0 : jx_H} {B : Nat → Int32} {sz β t : Nat} {a b m : Nat} {V : Nat → Nat → Nat} {W : Nat → Nat → List Nat} {D : Nat → Int32} (x : jML h B sz β t V W D) (F : jMF β h0 h) (hβ : β < 2) (hn : V 0 2 < 12) (h5 : V 0 1 ≤ 5) (h6 : V 0 0 ≤ 6) (hW : jnW (W 2) (V 0 2)) (hWp : jnW (W 1) (V 0 1)) (hWm : jnW (W 0) (V 0 0)) (k0 : jT_K B sz t = 3) (n0 : jnF (W 2) (jT_wd B sz (jT_p B sz t)) (V 0 2) 0 = none) (k1 : jT_K B sz (t + 1) = 113) (k2 : jT_K B sz (t + 2) = 3) (j2 : jnF (W 1) (jT_wd B sz (jT_p B sz (t + 2))) (V 0 1) 0 = some a) (k3 : jT_K B sz (t + 3) = 108) (k4 : jT_K B sz (t + 4) = 3) (j4 : jnF (W 1) (jT_wd B sz (jT_p B sz (t + 4))) (V 0 1) 0 = some b) (i4 : ¬ b = a) (k5 : jT_K B sz (t + 5) = 114) (k6 : jT_K B sz (t + 6) = 2) (r6 : 1 ≤ jT_v B sz (jT_p B sz (t + 6)) ∧ jT_v B sz (jT_p B sz (t + 6)) ≤ 99) (k7 : jT_K B sz (t + 7) = 115) (k8 : jT_K B sz (t + 8) = 2) (r8 : 1 ≤ jT_v B sz (jT_p B sz (t + 8)) ∧ jT_v B sz (jT_p B sz (t + 8)) ≤ 31) (k9 : jT_K B sz (t + 9) = 116) (k10 : jT_K B sz (t + 10) = 3) (j10 : jnF (W 0) (jT_wd B sz (jT_p B sz (t + 10))) (V 0 0) 0 = some m) (k11 : ¬ jT_K B sz (t + 11) = 117) (k : ∀ h', jMF β h0 h' → jML h' B sz β (t + 11) (jVd V a b (jT_v B sz (jT_p B sz (t + 6))) (jT_v B sz (jT_p B sz (t + 8))) m 0) (jw2 W 2 (V 0 2) (jT_wd B sz (jT_p B sz t))) D → Q none h')  : jx_Ev jm_MD_readDue (d + 8) 0 0 false 1 [jv_r 11 0] h Q := by
  show jx_W (jm_MD_readDue, d + 8, 0, 0, false, 1, _) Q 0 0 0 [some (jv_r 11 0), none] [] _
  obtain ⟨⟨t0, m0, f0, b0, -, -, -, -⟩, ⟨⟨a1, a2⟩, ⟨p1, p2⟩, ⟨c1, c2⟩, -⟩, -⟩ := id x
  have xb := b0
  have hr : ∀ j, j < V 0 2 → jh_L h 92 0 (12 * β + j) = jT_key (W 2 j) := fun j hj => (c2 j hj).2
  have hj2 := (jnF_lt _ _ _ j2).2.1
  have hj4 := (jnF_lt _ _ _ j4).2.1
  have hj10 := (jnF_lt _ _ _ j10).2.1
  refine jr_ic rfl ?_
  refine jr_aload rfl rfl ?_
  refine jr_getI rfl rfl ?_
  refine jr_imul rfl ?_
  refine jr_aload rfl rfl ?_
  refine jr_getR rfl rfl rfl rfl (Or.inl rfl) ?_
  refine jr_aload rfl rfl ?_
  refine jr_getI rfl rfl ?_
  refine jr_iald (len := 2) rfl rfl b0 (by omega) ?_
  refine jr_iadd rfl ?_
  rw [xb, c1, show (12 : Int32) * nI β + nI (V 0 2) = nI (12 * β + V 0 2) from jn_add (jn_mul rfl rfl) rfl]
  refine jr_ist1 rfl rfl ?_
  refine jr_aload rfl rfl ?_
  refine jr_getR rfl rfl rfl rfl (Or.inl rfl) ?_
  refine jr_iload rfl rfl ?_
  refine jr_aload rfl rfl ?_
  refine jr_aload rfl rfl ?_
  refine jr_aload rfl rfl ?_
  refine jr_getR rfl rfl rfl rfl (Or.inl rfl) ?_
  refine jr_ic rfl ?_
  refine jr_aload rfl rfl ?_
  refine jr_getI rfl rfl ?_
  refine jr_imul rfl ?_
  refine jr_aload rfl rfl ?_
  refine jr_getR rfl rfl rfl rfl (Or.inl rfl) ?_
  refine jr_aload rfl rfl ?_
  refine jr_getI rfl rfl ?_
  refine jr_iald (len := 2) rfl rfl b0 (by omega) ?_
  rw [xb, c1, show (12 : Int32) * nI β = nI (12 * β) from jn_mul rfl rfl]
  refine jr_cv3 (mc' := 0) (ms' := 0) rfl jm_MD_here_n jm_MD_here_f rfl rfl rfl rfl rfl rfl rfl (Nat.zero_le _) (Nat.zero_le _) ?_
  refine eM_here_d m0 hβ hW hr (by omega) ?_
  rw [if_pos k0, n0]
  refine jr_cv1 (mc' := 0) (ms' := 0) rfl jm_MD_fresh_n jm_MD_fresh_f rfl rfl rfl rfl rfl rfl rfl (Nat.zero_le _) (Nat.zero_le _) ?_
  refine eM_fresh_y (B := B) (sz := sz) (t := t) t0 m0 f0 k0 (fun h1 g1 m1 => ?_)
  have t1 := jX_t_MG g1 t0
  have f1 : jh_I h1 11 0 4 = 0 := (g1.2.2.2 4 (by decide)).trans f0
  have b1 : jh_I h1 11 0 44 = nI β := (g1.2.2.2 44 (by decide)).trans b0
  refine jr_last (len := 24) rfl rfl rfl (by omega) ?_
  refine jr_aload rfl rfl ?_
  refine jr_aload rfl rfl ?_
  refine jr_lc rfl ?_
  refine jr_cv1 (mc' := 0) (ms' := 0) rfl jm_MD_isWord_n jm_MD_isWord_f rfl rfl rfl rfl rfl rfl rfl (Nat.zero_le _) (Nat.zero_le _) ?_
  refine eM_isWord (B := B) (sz := sz) (t := t + 1) m1 (i := 13) (by decide) jT_W13 ?_
  refine jr_cv1 (mc' := 0) (ms' := 0) rfl jm_MD_must_n jm_MD_must_f rfl rfl rfl rfl rfl rfl rfl (Nat.zero_le _) (Nat.zero_le _) ?_
  refine eM_must_y (B := B) (sz := sz) (t := t + 1) t1 m1 f1 (by rw [if_pos k1]; decide) (fun h2 g2 m2 => ?_)
  have t2 := jX_t_MG g2 t1
  have f2 : jh_I h2 11 0 4 = 0 := (g2.2.2.2 4 (by decide)).trans f1
  have b2 : jh_I h2 11 0 44 = nI β := (g2.2.2.2 44 (by decide)).trans b1
  refine jr_aload rfl rfl ?_
  refine jr_getR rfl rfl rfl rfl (Or.inl rfl) ?_
  refine jr_iload rfl rfl ?_
  refine jr_aload rfl rfl ?_
  refine jr_aload rfl rfl ?_
  refine jr_cv0 (mc' := 0) (ms' := 0) rfl jm_MD_personHere_n jm_MD_personHere_f rfl rfl rfl rfl rfl rfl rfl (Nat.zero_le _) (Nat.zero_le _) ?_
  show jx_W (jm_MD_personHere, _, _, _, _, _, _) _ 0 0 0 [some _] [] _
  refine jr_aload rfl rfl ?_
  refine jr_aload rfl rfl ?_
  refine jr_getR rfl rfl rfl rfl (Or.inl rfl) ?_
  refine jr_ic rfl ?_
  refine jr_aload rfl rfl ?_
  refine jr_getI rfl rfl ?_
  refine jr_imul rfl ?_
  refine jr_aload rfl rfl ?_
  refine jr_getR rfl rfl rfl rfl (Or.inl rfl) ?_
  refine jr_aload rfl rfl ?_
  refine jr_getI rfl rfl ?_
  refine jr_iald (len := 2) rfl rfl (by first | exact b4 | exact b2) (by omega) ?_
  rw [show jh_I (h2) 11 0 44 = nI β from b2, show jh_I (h2) 67 0 β = nI (V 0 1) from (congrFun ((g2.1 67 0 (by decide)).trans (g1.1 67 0 (by decide))) β).trans p1, show (5 : Int32) * nI β = nI (5 * β) from jn_mul rfl rfl]
  refine jr_cv3 (mc' := 0) (ms' := 0) rfl jm_MD_here_n jm_MD_here_f rfl rfl rfl rfl rfl rfl rfl (Nat.zero_le _) (Nat.zero_le _) ?_
  refine eM_here_p (B := B) (sz := sz) (t := t + 2) m2 hβ hWp (fun j hj => (congrFun ((g2.2.1 91 0 (by decide)).trans (g1.2.1 91 0 (by decide))) _).trans ((p2 j hj).2)) (by omega) ?_
  refine jr_iret rfl rfl (Nat.zero_le _) (Nat.zero_le _) ?_
  rw [if_pos k2, j2]
  refine jr_cv1 (mc' := 0) (ms' := 0) rfl jm_MD_told_n jm_MD_told_f rfl rfl rfl rfl rfl rfl rfl (Nat.zero_le _) (Nat.zero_le _) ?_
  refine eM_told_y (j := a) (B := B) (sz := sz) (t := t + 2) t2 m2 f2 k2 (by omega) ?_
  refine jr_iast (len := 24) rfl rfl rfl (by omega) ?_
  refine jr_aload rfl rfl ?_
  refine jr_cv0 (mc' := 0) (ms' := 0) rfl jm_MD_isGood_n jm_MD_isGood_f rfl rfl rfl rfl rfl rfl rfl (Nat.zero_le _) (Nat.zero_le _) ?_
  show jx_W (jm_MD_isGood, _, _, _, _, _, _) _ 0 0 0 [some _] [] _
  refine jr_aload rfl rfl ?_
  refine jr_getI rfl rfl ?_
  refine jr_if_ne rfl (fun z => absurd f2 z) (fun _ => ?_)
  refine jr_ic rfl ?_
  refine jr_goto rfl ?_
  refine jr_zret rfl rfl rfl (Nat.zero_le _) (Nat.zero_le _) ?_
  refine jr_if_eq rfl (fun z => absurd z (by decide)) (fun _ => ?_)
  refine jr_aload rfl rfl ?_
  refine jr_cv0 (mc' := 0) (ms' := 0) rfl jm_MD_goOn_n jm_MD_goOn_f rfl rfl rfl rfl rfl rfl rfl (Nat.zero_le _) (Nat.zero_le _) ?_
  refine eM_goOn (B := B) (sz := sz) (t := t + 3) t2.1 t2.2.1 t2.2.2.1 m2.2.1 (fun h3 g3 m3 => ?_)
  have t3 := jX_t_MG g3 t2
  have f3 : jh_I h3 11 0 4 = 0 := (g3.2.2.2 4 (by decide)).trans f2
  have b3 : jh_I h3 11 0 44 = nI β := (g3.2.2.2 44 (by decide)).trans b2
  refine jr_aload rfl rfl ?_
  refine jr_aload rfl rfl ?_
  refine jr_lc rfl ?_
  refine jr_cv1 (mc' := 0) (ms' := 0) rfl jm_MD_isWord_n jm_MD_isWord_f rfl rfl rfl rfl rfl rfl rfl (Nat.zero_le _) (Nat.zero_le _) ?_
  refine eM_isWord (B := B) (sz := sz) (t := t + 3) m3 (i := 8) (by decide) jT_W8 ?_
  refine jr_cv1 (mc' := 0) (ms' := 0) rfl jm_MD_must_n jm_MD_must_f rfl rfl rfl rfl rfl rfl rfl (Nat.zero_le _) (Nat.zero_le _) ?_
  refine eM_must_y (B := B) (sz := sz) (t := t + 3) t3 m3 f3 (by rw [if_pos k3]; decide) (fun h4 g4 m4 => ?_)
  have t4 := jX_t_MG g4 t3
  have f4 : jh_I h4 11 0 4 = 0 := (g4.2.2.2 4 (by decide)).trans f3
  have b4 : jh_I h4 11 0 44 = nI β := (g4.2.2.2 44 (by decide)).trans b3
  refine jr_aload rfl rfl ?_
  refine jr_getR rfl rfl rfl rfl (Or.inl rfl) ?_
  refine jr_iload rfl rfl ?_
  refine jr_aload rfl rfl ?_
  refine jr_aload rfl rfl ?_
  refine jr_cv0 (mc' := 0) (ms' := 0) rfl jm_MD_personHere_n jm_MD_personHere_f rfl rfl rfl rfl rfl rfl rfl (Nat.zero_le _) (Nat.zero_le _) ?_
  show jx_W (jm_MD_personHere, _, _, _, _, _, _) _ 0 0 0 [some _] [] _
  refine jr_aload rfl rfl ?_
  refine jr_aload rfl rfl ?_
  refine jr_getR rfl rfl rfl rfl (Or.inl rfl) ?_
  refine jr_ic rfl ?_
  refine jr_aload rfl rfl ?_
  refine jr_getI rfl rfl ?_
  refine jr_imul rfl ?_
  refine jr_aload rfl rfl ?_
  refine jr_getR rfl rfl rfl rfl (Or.inl rfl) ?_
  refine jr_aload rfl rfl ?_
  refine jr_getI rfl rfl ?_
  refine jr_iald (len := 2) rfl rfl (by first | exact b4 | exact b2) (by omega) ?_
  rw [show jh_I (h4) 11 0 44 = nI β from b4, show jh_I (h4) 67 0 β = nI (V 0 1) from (congrFun ((g4.1 67 0 (by decide)).trans ((g3.1 67 0 (by decide)).trans ((g2.1 67 0 (by decide)).trans (g1.1 67 0 (by decide))))) β).trans p1, show (5 : Int32) * nI β = nI (5 * β) from jn_mul rfl rfl]
  refine jr_cv3 (mc' := 0) (ms' := 0) rfl jm_MD_here_n jm_MD_here_f rfl rfl rfl rfl rfl rfl rfl (Nat.zero_le _) (Nat.zero_le _) ?_
  refine eM_here_p (B := B) (sz := sz) (t := t + 4) m4 hβ hWp (fun j hj => (congrFun ((g4.2.1 91 0 (by decide)).trans ((g3.2.1 91 0 (by decide)).trans ((g2.2.1 91 0 (by decide)).trans (g1.2.1 91 0 (by decide))))) _).trans ((p2 j hj).2)) (by omega) ?_
  refine jr_iret rfl rfl (Nat.zero_le _) (Nat.zero_le _) ?_
  rw [if_pos k4, j4]
  refine jr_cv1 (mc' := 0) (ms' := 0) rfl jm_MD_told_n jm_MD_told_f rfl rfl rfl rfl rfl rfl rfl (Nat.zero_le _) (Nat.zero_le _) ?_
  refine eM_told_y (j := b) (B := B) (sz := sz) (t := t + 4) t4 m4 f4 k4 (by omega) ?_
  refine jr_iast (len := 24) rfl rfl rfl (by omega) ?_
  refine jr_aload rfl rfl ?_
  refine jr_cv0 (mc' := 0) (ms' := 0) rfl jm_MD_isGood_n jm_MD_isGood_f rfl rfl rfl rfl rfl rfl rfl (Nat.zero_le _) (Nat.zero_le _) ?_
  show jx_W (jm_MD_isGood, _, _, _, _, _, _) _ 0 0 0 [some _] [] _
  refine jr_aload rfl rfl ?_
  refine jr_getI rfl rfl ?_
  refine jr_if_ne rfl (fun z => absurd f4 z) (fun _ => ?_)
  refine jr_ic rfl ?_
  refine jr_goto rfl ?_
  refine jr_zret rfl rfl rfl (Nat.zero_le _) (Nat.zero_le _) ?_
  refine jr_if_eq rfl (fun z => absurd z (by decide)) (fun _ => ?_)
  refine jr_aload rfl rfl ?_
  refine jr_getR rfl rfl rfl rfl (Or.inl rfl) ?_
  refine jr_iload rfl rfl ?_
  refine jr_iald (len := 24) rfl rfl rfl (by omega) ?_
  rw [jg_Iuu]
  refine jr_aload rfl rfl ?_
  refine jr_getR rfl rfl rfl rfl (Or.inl rfl) ?_
  refine jr_iload rfl rfl ?_
  refine jr_iald (len := 24) rfl rfl rfl (by omega) ?_
  rw [show jh_I (ju_I (h4) 74 0 (upd (jh_I (h4) 74 0) ((12 * β + V 0 2)) (nI b))) 73 0 (12 * β + V 0 2) = nI a from (congrFun ((g4.1 73 0 (by decide)).trans ((g3.1 73 0 (by decide)).trans (congrArg (fun F => upd F ((12 * β + V 0 2)) (nI a)) ((g2.1 73 0 (by decide)).trans (g1.1 73 0 (by decide)))))) (12 * β + V 0 2)).trans (jg_us _ _ _)]
  refine jr_icmp_ne rfl (fun _ => ?_) (fun z => absurd z (fun y => i4 (jn_eq (show nI b = nI a from y) (by omega) (by omega))))
  refine jr_aload rfl rfl ?_
  refine jr_cv0 (mc' := 0) (ms' := 0) rfl jm_MD_isGood_n jm_MD_isGood_f rfl rfl rfl rfl rfl rfl rfl (Nat.zero_le _) (Nat.zero_le _) ?_
  show jx_W (jm_MD_isGood, _, _, _, _, _, _) _ 0 0 0 [some _] [] _
  refine jr_aload rfl rfl ?_
  refine jr_getI rfl rfl ?_
  refine jr_if_ne rfl (fun z => absurd f4 z) (fun _ => ?_)
  refine jr_ic rfl ?_
  refine jr_goto rfl ?_
  refine jr_zret rfl rfl rfl (Nat.zero_le _) (Nat.zero_le _) ?_
  refine jr_if_eq rfl (fun z => absurd z (by decide)) (fun _ => ?_)
  refine jr_aload rfl rfl ?_
  refine jr_cv0 (mc' := 0) (ms' := 0) rfl jm_MD_goOn_n jm_MD_goOn_f rfl rfl rfl rfl rfl rfl rfl (Nat.zero_le _) (Nat.zero_le _) ?_
  refine eM_goOn (B := B) (sz := sz) (t := t + 5) t4.1 t4.2.1 t4.2.2.1 m4.2.1 (fun h5 g5 m5 => ?_)
  have t5 := jX_t_MG g5 t4
  have f5 : jh_I h5 11 0 4 = 0 := (g5.2.2.2 4 (by decide)).trans f4
  have b5 : jh_I h5 11 0 44 = nI β := (g5.2.2.2 44 (by decide)).trans b4
  refine jr_aload rfl rfl ?_
  refine jr_getR rfl rfl rfl rfl (Or.inl rfl) ?_
  refine jr_iload rfl rfl ?_
  refine jr_aload rfl rfl ?_
  refine jr_lc rfl ?_
  refine jr_ic rfl ?_
  refine jr_ic rfl ?_
  refine jr_cv3 (mc' := 0) (ms' := 0) rfl jm_MD_after_n jm_MD_after_f rfl rfl rfl rfl rfl rfl rfl (Nat.zero_le _) (Nat.zero_le _) ?_
  show jx_W (jm_MD_after, _, _, _, _, _, _) _ 0 0 0 [some _, some _, none, some _, some _] [] _
  refine jr_aload rfl rfl ?_
  refine jr_aload rfl rfl ?_
  refine jr_lload rfl rfl ?_
  refine jr_cv1 (mc' := 0) (ms' := 0) rfl jm_MD_isWord_n jm_MD_isWord_f rfl rfl rfl rfl rfl rfl rfl (Nat.zero_le _) (Nat.zero_le _) ?_
  refine eM_isWord (B := B) (sz := sz) (t := t + 5) m5 (i := 14) (by decide) jT_W14 ?_
  refine jr_cv1 (mc' := 0) (ms' := 0) rfl jm_MD_must_n jm_MD_must_f rfl rfl rfl rfl rfl rfl rfl (Nat.zero_le _) (Nat.zero_le _) ?_
  refine eM_must_y (B := B) (sz := sz) (t := t + 5) t5 m5 f5 (by rw [if_pos k5]; decide) (fun h6 g6 m6 => ?_)
  have t6 := jX_t_MG g6 t5
  have f6 : jh_I h6 11 0 4 = 0 := (g6.2.2.2 4 (by decide)).trans f5
  have b6 : jh_I h6 11 0 44 = nI β := (g6.2.2.2 44 (by decide)).trans b5
  refine jr_aload rfl rfl ?_
  refine jr_iload rfl rfl ?_
  refine jr_iload rfl rfl ?_
  refine jr_cv2 (mc' := 0) (ms' := 0) rfl jm_MD_numeral_n jm_MD_numeral_f rfl rfl rfl rfl rfl rfl rfl (Nat.zero_le _) (Nat.zero_le _) ?_
  refine eM_num_y (B := B) (sz := sz) (lo := 1) (hi := 99) (t := t + 6) t6 m6 f6 (by omega) (by omega) k6 r6.1 r6.2 (fun h7 g7 m7 => ?_)
  have t7 := jX_t_MG g7 t6
  have f7 : jh_I h7 11 0 4 = 0 := (g7.2.2.2 4 (by decide)).trans f6
  have b7 : jh_I h7 11 0 44 = nI β := (g7.2.2.2 44 (by decide)).trans b6
  refine jr_iret rfl rfl (Nat.zero_le _) (Nat.zero_le _) ?_
  refine jr_iast (len := 24) rfl rfl rfl (by omega) ?_
  refine jr_aload rfl rfl ?_
  refine jr_getR rfl rfl rfl rfl (Or.inl rfl) ?_
  refine jr_iload rfl rfl ?_
  refine jr_aload rfl rfl ?_
  refine jr_lc rfl ?_
  refine jr_ic rfl ?_
  refine jr_ic rfl ?_
  refine jr_cv3 (mc' := 0) (ms' := 0) rfl jm_MD_after_n jm_MD_after_f rfl rfl rfl rfl rfl rfl rfl (Nat.zero_le _) (Nat.zero_le _) ?_
  show jx_W (jm_MD_after, _, _, _, _, _, _) _ 0 0 0 [some _, some _, none, some _, some _] [] _
  refine jr_aload rfl rfl ?_
  refine jr_aload rfl rfl ?_
  refine jr_lload rfl rfl ?_
  refine jr_cv1 (mc' := 0) (ms' := 0) rfl jm_MD_isWord_n jm_MD_isWord_f rfl rfl rfl rfl rfl rfl rfl (Nat.zero_le _) (Nat.zero_le _) ?_
  refine eM_isWord (B := B) (sz := sz) (t := t + 7) m7 (i := 15) (by decide) jT_W15 ?_
  refine jr_cv1 (mc' := 0) (ms' := 0) rfl jm_MD_must_n jm_MD_must_f rfl rfl rfl rfl rfl rfl rfl (Nat.zero_le _) (Nat.zero_le _) ?_
  refine eM_must_y (B := B) (sz := sz) (t := t + 7) t7 m7 f7 (by rw [if_pos k7]; decide) (fun h8 g8 m8 => ?_)
  have t8 := jX_t_MG g8 t7
  have f8 : jh_I h8 11 0 4 = 0 := (g8.2.2.2 4 (by decide)).trans f7
  have b8 : jh_I h8 11 0 44 = nI β := (g8.2.2.2 44 (by decide)).trans b7
  refine jr_aload rfl rfl ?_
  refine jr_iload rfl rfl ?_
  refine jr_iload rfl rfl ?_
  refine jr_cv2 (mc' := 0) (ms' := 0) rfl jm_MD_numeral_n jm_MD_numeral_f rfl rfl rfl rfl rfl rfl rfl (Nat.zero_le _) (Nat.zero_le _) ?_
  refine eM_num_y (B := B) (sz := sz) (lo := 1) (hi := 31) (t := t + 8) t8 m8 f8 (by omega) (by omega) k8 r8.1 r8.2 (fun h9 g9 m9 => ?_)
  have t9 := jX_t_MG g9 t8
  have f9 : jh_I h9 11 0 4 = 0 := (g9.2.2.2 4 (by decide)).trans f8
  have b9 : jh_I h9 11 0 44 = nI β := (g9.2.2.2 44 (by decide)).trans b8
  refine jr_iret rfl rfl (Nat.zero_le _) (Nat.zero_le _) ?_
  refine jr_iast (len := 24) rfl rfl rfl (by omega) ?_
  refine jr_aload rfl rfl ?_
  refine jr_aload rfl rfl ?_
  refine jr_lc rfl ?_
  refine jr_cv1 (mc' := 0) (ms' := 0) rfl jm_MD_isWord_n jm_MD_isWord_f rfl rfl rfl rfl rfl rfl rfl (Nat.zero_le _) (Nat.zero_le _) ?_
  refine eM_isWord (B := B) (sz := sz) (t := t + 9) m9 (i := 16) (by decide) jT_W16 ?_
  refine jr_cv1 (mc' := 0) (ms' := 0) rfl jm_MD_must_n jm_MD_must_f rfl rfl rfl rfl rfl rfl rfl (Nat.zero_le _) (Nat.zero_le _) ?_
  refine eM_must_y (B := B) (sz := sz) (t := t + 9) t9 m9 f9 (by rw [if_pos k9]; decide) (fun h10 g10 m10 => ?_)
  have t10 := jX_t_MG g10 t9
  have f10 : jh_I h10 11 0 4 = 0 := (g10.2.2.2 4 (by decide)).trans f9
  have b10 : jh_I h10 11 0 44 = nI β := (g10.2.2.2 44 (by decide)).trans b9
  refine jr_aload rfl rfl ?_
  refine jr_getR rfl rfl rfl rfl (Or.inl rfl) ?_
  refine jr_iload rfl rfl ?_
  refine jr_aload rfl rfl ?_
  refine jr_aload rfl rfl ?_
  refine jr_aload rfl rfl ?_
  refine jr_getR rfl rfl rfl rfl (Or.inl rfl) ?_
  refine jr_ic rfl ?_
  refine jr_aload rfl rfl ?_
  refine jr_getI rfl rfl ?_
  refine jr_imul rfl ?_
  refine jr_aload rfl rfl ?_
  refine jr_getR rfl rfl rfl rfl (Or.inl rfl) ?_
  refine jr_aload rfl rfl ?_
  refine jr_getI rfl rfl ?_
  refine jr_iald (len := 2) rfl rfl b10 (by omega) ?_
  rw [show jh_I (h10) 11 0 44 = nI β from b10, show jh_I (h10) 66 0 β = nI (V 0 0) from (congrFun ((g10.1 66 0 (by decide)).trans ((g9.1 66 0 (by decide)).trans ((g8.1 66 0 (by decide)).trans ((g7.1 66 0 (by decide)).trans ((g6.1 66 0 (by decide)).trans ((g5.1 66 0 (by decide)).trans ((g4.1 66 0 (by decide)).trans ((g3.1 66 0 (by decide)).trans ((g2.1 66 0 (by decide)).trans (g1.1 66 0 (by decide))))))))))) β).trans a1, show (6 : Int32) * nI β = nI (6 * β) from jn_mul rfl rfl]
  refine jr_cv3 (mc' := 0) (ms' := 0) rfl jm_MD_here_n jm_MD_here_f rfl rfl rfl rfl rfl rfl rfl (Nat.zero_le _) (Nat.zero_le _) ?_
  refine eM_here_m (B := B) (sz := sz) (t := t + 10) m10 hβ hWm (fun j hj => (congrFun ((g10.2.1 90 0 (by decide)).trans ((g9.2.1 90 0 (by decide)).trans ((g8.2.1 90 0 (by decide)).trans ((g7.2.1 90 0 (by decide)).trans ((g6.2.1 90 0 (by decide)).trans ((g5.2.1 90 0 (by decide)).trans ((g4.2.1 90 0 (by decide)).trans ((g3.2.1 90 0 (by decide)).trans ((g2.2.1 90 0 (by decide)).trans (g1.2.1 90 0 (by decide))))))))))) _).trans ((a2 j hj).2.2)) (by omega) ?_
  rw [if_pos k10, j10]
  refine jr_cv1 (mc' := 0) (ms' := 0) rfl jm_MD_told_n jm_MD_told_f rfl rfl rfl rfl rfl rfl rfl (Nat.zero_le _) (Nat.zero_le _) ?_
  refine eM_told_y (j := m) (B := B) (sz := sz) (t := t + 10) t10 m10 f10 k10 (by omega) ?_
  refine jr_iast (len := 24) rfl rfl rfl (by omega) ?_
  refine jr_aload rfl rfl ?_
  refine jr_cv0 (mc' := 0) (ms' := 0) rfl jm_MD_isGood_n jm_MD_isGood_f rfl rfl rfl rfl rfl rfl rfl (Nat.zero_le _) (Nat.zero_le _) ?_
  show jx_W (jm_MD_isGood, _, _, _, _, _, _) _ 0 0 0 [some _] [] _
  refine jr_aload rfl rfl ?_
  refine jr_getI rfl rfl ?_
  refine jr_if_ne rfl (fun z => absurd f10 z) (fun _ => ?_)
  refine jr_ic rfl ?_
  refine jr_goto rfl ?_
  refine jr_zret rfl rfl rfl (Nat.zero_le _) (Nat.zero_le _) ?_
  refine jr_if_eq rfl (fun z => absurd z (by decide)) (fun _ => ?_)
  refine jr_aload rfl rfl ?_
  refine jr_cv0 (mc' := 0) (ms' := 0) rfl jm_MD_goOn_n jm_MD_goOn_f rfl rfl rfl rfl rfl rfl rfl (Nat.zero_le _) (Nat.zero_le _) ?_
  refine eM_goOn (B := B) (sz := sz) (t := t + 11) t10.1 t10.2.1 t10.2.2.1 m10.2.1 (fun h11 g11 m11 => ?_)
  have t11 := jX_t_MG g11 t10
  have f11 : jh_I h11 11 0 4 = 0 := (g11.2.2.2 4 (by decide)).trans f10
  have b11 : jh_I h11 11 0 44 = nI β := (g11.2.2.2 44 (by decide)).trans b10
  refine jr_aload rfl rfl ?_
  refine jr_getR rfl rfl rfl rfl (Or.inl rfl) ?_
  refine jr_iload rfl rfl ?_
  refine jr_aload rfl rfl ?_
  refine jr_lc rfl ?_
  refine jr_cv1 (mc' := 0) (ms' := 0) rfl jm_MD_has_n jm_MD_has_f rfl rfl rfl rfl rfl rfl rfl (Nat.zero_le _) (Nat.zero_le _) ?_
  refine eM_has_n (B := B) (sz := sz) (i := 17) (t := t + 11) t11 m11 f11 (by decide) jT_W17 k11 ?_
  refine jr_zast (len := 24) rfl rfl rfl (by omega) ?_
  refine jr_aload rfl rfl ?_
  refine jr_getR rfl rfl rfl rfl (Or.inl rfl) ?_
  refine jr_aload rfl rfl ?_
  refine jr_getI rfl rfl ?_
  refine jr_dup2 rfl ?_
  refine jr_iald (len := 2) rfl rfl b11 (by omega) ?_
  refine jr_ic rfl ?_
  refine jr_iadd rfl ?_
  rw [show jh_I (ju_I (h11) 84 0 (upd (jh_I (h11) 84 0) ((12 * β + V 0 2)) (0 &&& 1))) 68 0 β = nI (V 0 2) from (congrFun ((g11.1 68 0 (by decide)).trans ((g10.1 68 0 (by decide)).trans ((g9.1 68 0 (by decide)).trans ((g8.1 68 0 (by decide)).trans ((g7.1 68 0 (by decide)).trans ((g6.1 68 0 (by decide)).trans ((g5.1 68 0 (by decide)).trans ((g4.1 68 0 (by decide)).trans ((g3.1 68 0 (by decide)).trans ((g2.1 68 0 (by decide)).trans (g1.1 68 0 (by decide)))))))))))) β).trans c1, show nI (V 0 2) + 1 = nI (V 0 2 + 1) from jn_S _]
  refine jr_iast (len := 2) rfl rfl b11 (by omega) ?_
  refine jr_vret rfl rfl (Nat.zero_le _) (Nat.zero_le _) ?_
  refine k _ (jMF_I (a := 68) (w := 1) (jMF_I (a := 84) (w := 12) (jMF_G (jMF_I (a := 77) (w := 12) (jMF_G (jMF_I (a := 76) (w := 12) (jMF_G (jMF_G (jMF_I (a := 75) (w := 12) (jMF_G (jMF_G (jMF_G (jMF_I (a := 74) (w := 12) (jMF_G (jMF_G (jMF_I (a := 73) (w := 12) (jMF_G (jMF_L (a := 92) (w := 12) (jMF_G (F) g1) (by decide) (by decide) (by omega) (by omega)) g2) (by decide) (by decide) (by omega) (by omega)) g3) g4) (by decide) (by decide) (by omega) (by omega)) g5) g6) g7) (by decide) (by decide) (by omega) (by omega)) g8) g9) (by decide) (by decide) (by omega) (by omega)) g10) (by decide) (by decide) (by omega) (by omega)) g11) (by decide) (by decide) (by omega) (by omega)) (by decide) (by decide) (by omega) (by omega)) (jML_due x t11 m11 f11 b11 ?_ ?_ ?_ ?_ ?_ ?_ ?_ ?_ ?_ ?_ ?_)
  · exact (g11.2.2.2 45 (by decide)).trans ((g10.2.2.2 45 (by decide)).trans ((g9.2.2.2 45 (by decide)).trans ((g8.2.2.2 45 (by decide)).trans ((g7.2.2.2 45 (by decide)).trans ((g6.2.2.2 45 (by decide)).trans ((g5.2.2.2 45 (by decide)).trans ((g4.2.2.2 45 (by decide)).trans ((g3.2.2.2 45 (by decide)).trans ((g2.2.2.2 45 (by decide)).trans (g1.2.2.2 45 (by decide)))))))))))
  · exact congrArg (fun F => upd F (β) (nI (V 0 2 + 1))) ((g11.1 68 0 (by decide)).trans ((g10.1 68 0 (by decide)).trans ((g9.1 68 0 (by decide)).trans ((g8.1 68 0 (by decide)).trans ((g7.1 68 0 (by decide)).trans ((g6.1 68 0 (by decide)).trans ((g5.1 68 0 (by decide)).trans ((g4.1 68 0 (by decide)).trans ((g3.1 68 0 (by decide)).trans ((g2.1 68 0 (by decide)).trans (g1.1 68 0 (by decide))))))))))))
  · exact (g11.1 73 0 (by decide)).trans ((g10.1 73 0 (by decide)).trans ((g9.1 73 0 (by decide)).trans ((g8.1 73 0 (by decide)).trans ((g7.1 73 0 (by decide)).trans ((g6.1 73 0 (by decide)).trans ((g5.1 73 0 (by decide)).trans ((g4.1 73 0 (by decide)).trans ((g3.1 73 0 (by decide)).trans (congrArg (fun F => upd F ((12 * β + V 0 2)) (nI a)) ((g2.1 73 0 (by decide)).trans (g1.1 73 0 (by decide))))))))))))
  · exact (g11.1 74 0 (by decide)).trans ((g10.1 74 0 (by decide)).trans ((g9.1 74 0 (by decide)).trans ((g8.1 74 0 (by decide)).trans ((g7.1 74 0 (by decide)).trans ((g6.1 74 0 (by decide)).trans ((g5.1 74 0 (by decide)).trans (congrArg (fun F => upd F ((12 * β + V 0 2)) (nI b)) ((g4.1 74 0 (by decide)).trans ((g3.1 74 0 (by decide)).trans ((g2.1 74 0 (by decide)).trans (g1.1 74 0 (by decide))))))))))))
  · exact (g11.1 75 0 (by decide)).trans ((g10.1 75 0 (by decide)).trans ((g9.1 75 0 (by decide)).trans ((g8.1 75 0 (by decide)).trans (congrArg (fun F => upd F ((12 * β + V 0 2)) (nI (jT_v B sz (jT_p B sz (t + 6))))) ((g7.1 75 0 (by decide)).trans ((g6.1 75 0 (by decide)).trans ((g5.1 75 0 (by decide)).trans ((g4.1 75 0 (by decide)).trans ((g3.1 75 0 (by decide)).trans ((g2.1 75 0 (by decide)).trans (g1.1 75 0 (by decide))))))))))))
  · exact (g11.1 76 0 (by decide)).trans ((g10.1 76 0 (by decide)).trans (congrArg (fun F => upd F ((12 * β + V 0 2)) (nI (jT_v B sz (jT_p B sz (t + 8))))) ((g9.1 76 0 (by decide)).trans ((g8.1 76 0 (by decide)).trans ((g7.1 76 0 (by decide)).trans ((g6.1 76 0 (by decide)).trans ((g5.1 76 0 (by decide)).trans ((g4.1 76 0 (by decide)).trans ((g3.1 76 0 (by decide)).trans ((g2.1 76 0 (by decide)).trans (g1.1 76 0 (by decide))))))))))))
  · exact (g11.1 77 0 (by decide)).trans (congrArg (fun F => upd F ((12 * β + V 0 2)) (nI m)) ((g10.1 77 0 (by decide)).trans ((g9.1 77 0 (by decide)).trans ((g8.1 77 0 (by decide)).trans ((g7.1 77 0 (by decide)).trans ((g6.1 77 0 (by decide)).trans ((g5.1 77 0 (by decide)).trans ((g4.1 77 0 (by decide)).trans ((g3.1 77 0 (by decide)).trans ((g2.1 77 0 (by decide)).trans (g1.1 77 0 (by decide))))))))))))
  · exact congrArg (fun F => upd F ((12 * β + V 0 2)) (0 &&& 1)) ((g11.1 84 0 (by decide)).trans ((g10.1 84 0 (by decide)).trans ((g9.1 84 0 (by decide)).trans ((g8.1 84 0 (by decide)).trans ((g7.1 84 0 (by decide)).trans ((g6.1 84 0 (by decide)).trans ((g5.1 84 0 (by decide)).trans ((g4.1 84 0 (by decide)).trans ((g3.1 84 0 (by decide)).trans ((g2.1 84 0 (by decide)).trans (g1.1 84 0 (by decide))))))))))))
  · exact (g11.2.1 92 0 (by decide)).trans ((g10.2.1 92 0 (by decide)).trans ((g9.2.1 92 0 (by decide)).trans ((g8.2.1 92 0 (by decide)).trans ((g7.2.1 92 0 (by decide)).trans ((g6.2.1 92 0 (by decide)).trans ((g5.2.1 92 0 (by decide)).trans ((g4.2.1 92 0 (by decide)).trans ((g3.2.1 92 0 (by decide)).trans ((g2.2.1 92 0 (by decide)).trans (congrArg (fun F => vp_updL F ((12 * β + V 0 2)) ((jT_key (jT_wd B sz (jT_p B sz t))))) (g1.2.1 92 0 (by decide))))))))))))
  · exact fun a b z11 z68 z73 z74 z75 z76 z77 z84 => (if_neg (fun y => z68 y.1)).trans ((if_neg (fun y => z84 y.1)).trans ((g11.1 a b z11).trans ((if_neg (fun y => z77 y.1)).trans ((g10.1 a b z11).trans ((if_neg (fun y => z76 y.1)).trans ((g9.1 a b z11).trans ((g8.1 a b z11).trans ((if_neg (fun y => z75 y.1)).trans ((g7.1 a b z11).trans ((g6.1 a b z11).trans ((g5.1 a b z11).trans ((if_neg (fun y => z74 y.1)).trans ((g4.1 a b z11).trans ((g3.1 a b z11).trans ((if_neg (fun y => z73 y.1)).trans ((g2.1 a b z11).trans (g1.1 a b z11)))))))))))))))))
  · exact fun a b z11 z92 => (g11.2.1 a b z11).trans ((g10.2.1 a b z11).trans ((g9.2.1 a b z11).trans ((g8.2.1 a b z11).trans ((g7.2.1 a b z11).trans ((g6.2.1 a b z11).trans ((g5.2.1 a b z11).trans ((g4.2.1 a b z11).trans ((g3.2.1 a b z11).trans ((g2.2.1 a b z11).trans ((if_neg (fun y => z92 y.1)).trans (g1.2.1 a b z11)))))))))))

set_option maxHeartbeats 800000 in
set_option maxRecDepth 100000 in
theorem eM_due_g1 {d : Nat} {h : jx_H} {Q : Option jx_V → jx_H → Prop} {h0 : jx_H} {B : Nat → Int32} {sz β t : Nat} {a b m : Nat} {V : Nat → Nat → Nat} {W : Nat → Nat → List Nat} {D : Nat → Int32} (x : jML h B sz β t V W D) (F : jMF β h0 h) (hβ : β < 2) (hn : V 0 2 < 12) (h5 : V 0 1 ≤ 5) (h6 : V 0 0 ≤ 6) (hW : jnW (W 2) (V 0 2)) (hWp : jnW (W 1) (V 0 1)) (hWm : jnW (W 0) (V 0 0)) (k0 : jT_K B sz t = 3) (n0 : jnF (W 2) (jT_wd B sz (jT_p B sz t)) (V 0 2) 0 = none) (k1 : jT_K B sz (t + 1) = 113) (k2 : jT_K B sz (t + 2) = 3) (j2 : jnF (W 1) (jT_wd B sz (jT_p B sz (t + 2))) (V 0 1) 0 = some a) (k3 : jT_K B sz (t + 3) = 108) (k4 : jT_K B sz (t + 4) = 3) (j4 : jnF (W 1) (jT_wd B sz (jT_p B sz (t + 4))) (V 0 1) 0 = some b) (i4 : ¬ b = a) (k5 : jT_K B sz (t + 5) = 114) (k6 : jT_K B sz (t + 6) = 2) (r6 : 1 ≤ jT_v B sz (jT_p B sz (t + 6)) ∧ jT_v B sz (jT_p B sz (t + 6)) ≤ 99) (k7 : jT_K B sz (t + 7) = 115) (k8 : jT_K B sz (t + 8) = 2) (r8 : 1 ≤ jT_v B sz (jT_p B sz (t + 8)) ∧ jT_v B sz (jT_p B sz (t + 8)) ≤ 31) (k9 : jT_K B sz (t + 9) = 116) (k10 : jT_K B sz (t + 10) = 3) (j10 : jnF (W 0) (jT_wd B sz (jT_p B sz (t + 10))) (V 0 0) 0 = some m) (k11 : jT_K B sz (t + 11) = 117) (k : ∀ h', jMF β h0 h' → jML h' B sz β (t + 12) (jVd V a b (jT_v B sz (jT_p B sz (t + 6))) (jT_v B sz (jT_p B sz (t + 8))) m 1) (jw2 W 2 (V 0 2) (jT_wd B sz (jT_p B sz t))) D → Q none h')  : jx_Ev jm_MD_readDue (d + 8) 0 0 false 1 [jv_r 11 0] h Q := by
  show jx_W (jm_MD_readDue, d + 8, 0, 0, false, 1, _) Q 0 0 0 [some (jv_r 11 0), none] [] _
  obtain ⟨⟨t0, m0, f0, b0, -, -, -, -⟩, ⟨⟨a1, a2⟩, ⟨p1, p2⟩, ⟨c1, c2⟩, -⟩, -⟩ := id x
  have xb := b0
  have hr : ∀ j, j < V 0 2 → jh_L h 92 0 (12 * β + j) = jT_key (W 2 j) := fun j hj => (c2 j hj).2
  have hj2 := (jnF_lt _ _ _ j2).2.1
  have hj4 := (jnF_lt _ _ _ j4).2.1
  have hj10 := (jnF_lt _ _ _ j10).2.1
  refine jr_ic rfl ?_
  refine jr_aload rfl rfl ?_
  refine jr_getI rfl rfl ?_
  refine jr_imul rfl ?_
  refine jr_aload rfl rfl ?_
  refine jr_getR rfl rfl rfl rfl (Or.inl rfl) ?_
  refine jr_aload rfl rfl ?_
  refine jr_getI rfl rfl ?_
  refine jr_iald (len := 2) rfl rfl b0 (by omega) ?_
  refine jr_iadd rfl ?_
  rw [xb, c1, show (12 : Int32) * nI β + nI (V 0 2) = nI (12 * β + V 0 2) from jn_add (jn_mul rfl rfl) rfl]
  refine jr_ist1 rfl rfl ?_
  refine jr_aload rfl rfl ?_
  refine jr_getR rfl rfl rfl rfl (Or.inl rfl) ?_
  refine jr_iload rfl rfl ?_
  refine jr_aload rfl rfl ?_
  refine jr_aload rfl rfl ?_
  refine jr_aload rfl rfl ?_
  refine jr_getR rfl rfl rfl rfl (Or.inl rfl) ?_
  refine jr_ic rfl ?_
  refine jr_aload rfl rfl ?_
  refine jr_getI rfl rfl ?_
  refine jr_imul rfl ?_
  refine jr_aload rfl rfl ?_
  refine jr_getR rfl rfl rfl rfl (Or.inl rfl) ?_
  refine jr_aload rfl rfl ?_
  refine jr_getI rfl rfl ?_
  refine jr_iald (len := 2) rfl rfl b0 (by omega) ?_
  rw [xb, c1, show (12 : Int32) * nI β = nI (12 * β) from jn_mul rfl rfl]
  refine jr_cv3 (mc' := 0) (ms' := 0) rfl jm_MD_here_n jm_MD_here_f rfl rfl rfl rfl rfl rfl rfl (Nat.zero_le _) (Nat.zero_le _) ?_
  refine eM_here_d m0 hβ hW hr (by omega) ?_
  rw [if_pos k0, n0]
  refine jr_cv1 (mc' := 0) (ms' := 0) rfl jm_MD_fresh_n jm_MD_fresh_f rfl rfl rfl rfl rfl rfl rfl (Nat.zero_le _) (Nat.zero_le _) ?_
  refine eM_fresh_y (B := B) (sz := sz) (t := t) t0 m0 f0 k0 (fun h1 g1 m1 => ?_)
  have t1 := jX_t_MG g1 t0
  have f1 : jh_I h1 11 0 4 = 0 := (g1.2.2.2 4 (by decide)).trans f0
  have b1 : jh_I h1 11 0 44 = nI β := (g1.2.2.2 44 (by decide)).trans b0
  refine jr_last (len := 24) rfl rfl rfl (by omega) ?_
  refine jr_aload rfl rfl ?_
  refine jr_aload rfl rfl ?_
  refine jr_lc rfl ?_
  refine jr_cv1 (mc' := 0) (ms' := 0) rfl jm_MD_isWord_n jm_MD_isWord_f rfl rfl rfl rfl rfl rfl rfl (Nat.zero_le _) (Nat.zero_le _) ?_
  refine eM_isWord (B := B) (sz := sz) (t := t + 1) m1 (i := 13) (by decide) jT_W13 ?_
  refine jr_cv1 (mc' := 0) (ms' := 0) rfl jm_MD_must_n jm_MD_must_f rfl rfl rfl rfl rfl rfl rfl (Nat.zero_le _) (Nat.zero_le _) ?_
  refine eM_must_y (B := B) (sz := sz) (t := t + 1) t1 m1 f1 (by rw [if_pos k1]; decide) (fun h2 g2 m2 => ?_)
  have t2 := jX_t_MG g2 t1
  have f2 : jh_I h2 11 0 4 = 0 := (g2.2.2.2 4 (by decide)).trans f1
  have b2 : jh_I h2 11 0 44 = nI β := (g2.2.2.2 44 (by decide)).trans b1
  refine jr_aload rfl rfl ?_
  refine jr_getR rfl rfl rfl rfl (Or.inl rfl) ?_
  refine jr_iload rfl rfl ?_
  refine jr_aload rfl rfl ?_
  refine jr_aload rfl rfl ?_
  refine jr_cv0 (mc' := 0) (ms' := 0) rfl jm_MD_personHere_n jm_MD_personHere_f rfl rfl rfl rfl rfl rfl rfl (Nat.zero_le _) (Nat.zero_le _) ?_
  show jx_W (jm_MD_personHere, _, _, _, _, _, _) _ 0 0 0 [some _] [] _
  refine jr_aload rfl rfl ?_
  refine jr_aload rfl rfl ?_
  refine jr_getR rfl rfl rfl rfl (Or.inl rfl) ?_
  refine jr_ic rfl ?_
  refine jr_aload rfl rfl ?_
  refine jr_getI rfl rfl ?_
  refine jr_imul rfl ?_
  refine jr_aload rfl rfl ?_
  refine jr_getR rfl rfl rfl rfl (Or.inl rfl) ?_
  refine jr_aload rfl rfl ?_
  refine jr_getI rfl rfl ?_
  refine jr_iald (len := 2) rfl rfl (by first | exact b4 | exact b2) (by omega) ?_
  rw [show jh_I (h2) 11 0 44 = nI β from b2, show jh_I (h2) 67 0 β = nI (V 0 1) from (congrFun ((g2.1 67 0 (by decide)).trans (g1.1 67 0 (by decide))) β).trans p1, show (5 : Int32) * nI β = nI (5 * β) from jn_mul rfl rfl]
  refine jr_cv3 (mc' := 0) (ms' := 0) rfl jm_MD_here_n jm_MD_here_f rfl rfl rfl rfl rfl rfl rfl (Nat.zero_le _) (Nat.zero_le _) ?_
  refine eM_here_p (B := B) (sz := sz) (t := t + 2) m2 hβ hWp (fun j hj => (congrFun ((g2.2.1 91 0 (by decide)).trans (g1.2.1 91 0 (by decide))) _).trans ((p2 j hj).2)) (by omega) ?_
  refine jr_iret rfl rfl (Nat.zero_le _) (Nat.zero_le _) ?_
  rw [if_pos k2, j2]
  refine jr_cv1 (mc' := 0) (ms' := 0) rfl jm_MD_told_n jm_MD_told_f rfl rfl rfl rfl rfl rfl rfl (Nat.zero_le _) (Nat.zero_le _) ?_
  refine eM_told_y (j := a) (B := B) (sz := sz) (t := t + 2) t2 m2 f2 k2 (by omega) ?_
  refine jr_iast (len := 24) rfl rfl rfl (by omega) ?_
  refine jr_aload rfl rfl ?_
  refine jr_cv0 (mc' := 0) (ms' := 0) rfl jm_MD_isGood_n jm_MD_isGood_f rfl rfl rfl rfl rfl rfl rfl (Nat.zero_le _) (Nat.zero_le _) ?_
  show jx_W (jm_MD_isGood, _, _, _, _, _, _) _ 0 0 0 [some _] [] _
  refine jr_aload rfl rfl ?_
  refine jr_getI rfl rfl ?_
  refine jr_if_ne rfl (fun z => absurd f2 z) (fun _ => ?_)
  refine jr_ic rfl ?_
  refine jr_goto rfl ?_
  refine jr_zret rfl rfl rfl (Nat.zero_le _) (Nat.zero_le _) ?_
  refine jr_if_eq rfl (fun z => absurd z (by decide)) (fun _ => ?_)
  refine jr_aload rfl rfl ?_
  refine jr_cv0 (mc' := 0) (ms' := 0) rfl jm_MD_goOn_n jm_MD_goOn_f rfl rfl rfl rfl rfl rfl rfl (Nat.zero_le _) (Nat.zero_le _) ?_
  refine eM_goOn (B := B) (sz := sz) (t := t + 3) t2.1 t2.2.1 t2.2.2.1 m2.2.1 (fun h3 g3 m3 => ?_)
  have t3 := jX_t_MG g3 t2
  have f3 : jh_I h3 11 0 4 = 0 := (g3.2.2.2 4 (by decide)).trans f2
  have b3 : jh_I h3 11 0 44 = nI β := (g3.2.2.2 44 (by decide)).trans b2
  refine jr_aload rfl rfl ?_
  refine jr_aload rfl rfl ?_
  refine jr_lc rfl ?_
  refine jr_cv1 (mc' := 0) (ms' := 0) rfl jm_MD_isWord_n jm_MD_isWord_f rfl rfl rfl rfl rfl rfl rfl (Nat.zero_le _) (Nat.zero_le _) ?_
  refine eM_isWord (B := B) (sz := sz) (t := t + 3) m3 (i := 8) (by decide) jT_W8 ?_
  refine jr_cv1 (mc' := 0) (ms' := 0) rfl jm_MD_must_n jm_MD_must_f rfl rfl rfl rfl rfl rfl rfl (Nat.zero_le _) (Nat.zero_le _) ?_
  refine eM_must_y (B := B) (sz := sz) (t := t + 3) t3 m3 f3 (by rw [if_pos k3]; decide) (fun h4 g4 m4 => ?_)
  have t4 := jX_t_MG g4 t3
  have f4 : jh_I h4 11 0 4 = 0 := (g4.2.2.2 4 (by decide)).trans f3
  have b4 : jh_I h4 11 0 44 = nI β := (g4.2.2.2 44 (by decide)).trans b3
  refine jr_aload rfl rfl ?_
  refine jr_getR rfl rfl rfl rfl (Or.inl rfl) ?_
  refine jr_iload rfl rfl ?_
  refine jr_aload rfl rfl ?_
  refine jr_aload rfl rfl ?_
  refine jr_cv0 (mc' := 0) (ms' := 0) rfl jm_MD_personHere_n jm_MD_personHere_f rfl rfl rfl rfl rfl rfl rfl (Nat.zero_le _) (Nat.zero_le _) ?_
  show jx_W (jm_MD_personHere, _, _, _, _, _, _) _ 0 0 0 [some _] [] _
  refine jr_aload rfl rfl ?_
  refine jr_aload rfl rfl ?_
  refine jr_getR rfl rfl rfl rfl (Or.inl rfl) ?_
  refine jr_ic rfl ?_
  refine jr_aload rfl rfl ?_
  refine jr_getI rfl rfl ?_
  refine jr_imul rfl ?_
  refine jr_aload rfl rfl ?_
  refine jr_getR rfl rfl rfl rfl (Or.inl rfl) ?_
  refine jr_aload rfl rfl ?_
  refine jr_getI rfl rfl ?_
  refine jr_iald (len := 2) rfl rfl (by first | exact b4 | exact b2) (by omega) ?_
  rw [show jh_I (h4) 11 0 44 = nI β from b4, show jh_I (h4) 67 0 β = nI (V 0 1) from (congrFun ((g4.1 67 0 (by decide)).trans ((g3.1 67 0 (by decide)).trans ((g2.1 67 0 (by decide)).trans (g1.1 67 0 (by decide))))) β).trans p1, show (5 : Int32) * nI β = nI (5 * β) from jn_mul rfl rfl]
  refine jr_cv3 (mc' := 0) (ms' := 0) rfl jm_MD_here_n jm_MD_here_f rfl rfl rfl rfl rfl rfl rfl (Nat.zero_le _) (Nat.zero_le _) ?_
  refine eM_here_p (B := B) (sz := sz) (t := t + 4) m4 hβ hWp (fun j hj => (congrFun ((g4.2.1 91 0 (by decide)).trans ((g3.2.1 91 0 (by decide)).trans ((g2.2.1 91 0 (by decide)).trans (g1.2.1 91 0 (by decide))))) _).trans ((p2 j hj).2)) (by omega) ?_
  refine jr_iret rfl rfl (Nat.zero_le _) (Nat.zero_le _) ?_
  rw [if_pos k4, j4]
  refine jr_cv1 (mc' := 0) (ms' := 0) rfl jm_MD_told_n jm_MD_told_f rfl rfl rfl rfl rfl rfl rfl (Nat.zero_le _) (Nat.zero_le _) ?_
  refine eM_told_y (j := b) (B := B) (sz := sz) (t := t + 4) t4 m4 f4 k4 (by omega) ?_
  refine jr_iast (len := 24) rfl rfl rfl (by omega) ?_
  refine jr_aload rfl rfl ?_
  refine jr_cv0 (mc' := 0) (ms' := 0) rfl jm_MD_isGood_n jm_MD_isGood_f rfl rfl rfl rfl rfl rfl rfl (Nat.zero_le _) (Nat.zero_le _) ?_
  show jx_W (jm_MD_isGood, _, _, _, _, _, _) _ 0 0 0 [some _] [] _
  refine jr_aload rfl rfl ?_
  refine jr_getI rfl rfl ?_
  refine jr_if_ne rfl (fun z => absurd f4 z) (fun _ => ?_)
  refine jr_ic rfl ?_
  refine jr_goto rfl ?_
  refine jr_zret rfl rfl rfl (Nat.zero_le _) (Nat.zero_le _) ?_
  refine jr_if_eq rfl (fun z => absurd z (by decide)) (fun _ => ?_)
  refine jr_aload rfl rfl ?_
  refine jr_getR rfl rfl rfl rfl (Or.inl rfl) ?_
  refine jr_iload rfl rfl ?_
  refine jr_iald (len := 24) rfl rfl rfl (by omega) ?_
  rw [jg_Iuu]
  refine jr_aload rfl rfl ?_
  refine jr_getR rfl rfl rfl rfl (Or.inl rfl) ?_
  refine jr_iload rfl rfl ?_
  refine jr_iald (len := 24) rfl rfl rfl (by omega) ?_
  rw [show jh_I (ju_I (h4) 74 0 (upd (jh_I (h4) 74 0) ((12 * β + V 0 2)) (nI b))) 73 0 (12 * β + V 0 2) = nI a from (congrFun ((g4.1 73 0 (by decide)).trans ((g3.1 73 0 (by decide)).trans (congrArg (fun F => upd F ((12 * β + V 0 2)) (nI a)) ((g2.1 73 0 (by decide)).trans (g1.1 73 0 (by decide)))))) (12 * β + V 0 2)).trans (jg_us _ _ _)]
  refine jr_icmp_ne rfl (fun _ => ?_) (fun z => absurd z (fun y => i4 (jn_eq (show nI b = nI a from y) (by omega) (by omega))))
  refine jr_aload rfl rfl ?_
  refine jr_cv0 (mc' := 0) (ms' := 0) rfl jm_MD_isGood_n jm_MD_isGood_f rfl rfl rfl rfl rfl rfl rfl (Nat.zero_le _) (Nat.zero_le _) ?_
  show jx_W (jm_MD_isGood, _, _, _, _, _, _) _ 0 0 0 [some _] [] _
  refine jr_aload rfl rfl ?_
  refine jr_getI rfl rfl ?_
  refine jr_if_ne rfl (fun z => absurd f4 z) (fun _ => ?_)
  refine jr_ic rfl ?_
  refine jr_goto rfl ?_
  refine jr_zret rfl rfl rfl (Nat.zero_le _) (Nat.zero_le _) ?_
  refine jr_if_eq rfl (fun z => absurd z (by decide)) (fun _ => ?_)
  refine jr_aload rfl rfl ?_
  refine jr_cv0 (mc' := 0) (ms' := 0) rfl jm_MD_goOn_n jm_MD_goOn_f rfl rfl rfl rfl rfl rfl rfl (Nat.zero_le _) (Nat.zero_le _) ?_
  refine eM_goOn (B := B) (sz := sz) (t := t + 5) t4.1 t4.2.1 t4.2.2.1 m4.2.1 (fun h5 g5 m5 => ?_)
  have t5 := jX_t_MG g5 t4
  have f5 : jh_I h5 11 0 4 = 0 := (g5.2.2.2 4 (by decide)).trans f4
  have b5 : jh_I h5 11 0 44 = nI β := (g5.2.2.2 44 (by decide)).trans b4
  refine jr_aload rfl rfl ?_
  refine jr_getR rfl rfl rfl rfl (Or.inl rfl) ?_
  refine jr_iload rfl rfl ?_
  refine jr_aload rfl rfl ?_
  refine jr_lc rfl ?_
  refine jr_ic rfl ?_
  refine jr_ic rfl ?_
  refine jr_cv3 (mc' := 0) (ms' := 0) rfl jm_MD_after_n jm_MD_after_f rfl rfl rfl rfl rfl rfl rfl (Nat.zero_le _) (Nat.zero_le _) ?_
  show jx_W (jm_MD_after, _, _, _, _, _, _) _ 0 0 0 [some _, some _, none, some _, some _] [] _
  refine jr_aload rfl rfl ?_
  refine jr_aload rfl rfl ?_
  refine jr_lload rfl rfl ?_
  refine jr_cv1 (mc' := 0) (ms' := 0) rfl jm_MD_isWord_n jm_MD_isWord_f rfl rfl rfl rfl rfl rfl rfl (Nat.zero_le _) (Nat.zero_le _) ?_
  refine eM_isWord (B := B) (sz := sz) (t := t + 5) m5 (i := 14) (by decide) jT_W14 ?_
  refine jr_cv1 (mc' := 0) (ms' := 0) rfl jm_MD_must_n jm_MD_must_f rfl rfl rfl rfl rfl rfl rfl (Nat.zero_le _) (Nat.zero_le _) ?_
  refine eM_must_y (B := B) (sz := sz) (t := t + 5) t5 m5 f5 (by rw [if_pos k5]; decide) (fun h6 g6 m6 => ?_)
  have t6 := jX_t_MG g6 t5
  have f6 : jh_I h6 11 0 4 = 0 := (g6.2.2.2 4 (by decide)).trans f5
  have b6 : jh_I h6 11 0 44 = nI β := (g6.2.2.2 44 (by decide)).trans b5
  refine jr_aload rfl rfl ?_
  refine jr_iload rfl rfl ?_
  refine jr_iload rfl rfl ?_
  refine jr_cv2 (mc' := 0) (ms' := 0) rfl jm_MD_numeral_n jm_MD_numeral_f rfl rfl rfl rfl rfl rfl rfl (Nat.zero_le _) (Nat.zero_le _) ?_
  refine eM_num_y (B := B) (sz := sz) (lo := 1) (hi := 99) (t := t + 6) t6 m6 f6 (by omega) (by omega) k6 r6.1 r6.2 (fun h7 g7 m7 => ?_)
  have t7 := jX_t_MG g7 t6
  have f7 : jh_I h7 11 0 4 = 0 := (g7.2.2.2 4 (by decide)).trans f6
  have b7 : jh_I h7 11 0 44 = nI β := (g7.2.2.2 44 (by decide)).trans b6
  refine jr_iret rfl rfl (Nat.zero_le _) (Nat.zero_le _) ?_
  refine jr_iast (len := 24) rfl rfl rfl (by omega) ?_
  refine jr_aload rfl rfl ?_
  refine jr_getR rfl rfl rfl rfl (Or.inl rfl) ?_
  refine jr_iload rfl rfl ?_
  refine jr_aload rfl rfl ?_
  refine jr_lc rfl ?_
  refine jr_ic rfl ?_
  refine jr_ic rfl ?_
  refine jr_cv3 (mc' := 0) (ms' := 0) rfl jm_MD_after_n jm_MD_after_f rfl rfl rfl rfl rfl rfl rfl (Nat.zero_le _) (Nat.zero_le _) ?_
  show jx_W (jm_MD_after, _, _, _, _, _, _) _ 0 0 0 [some _, some _, none, some _, some _] [] _
  refine jr_aload rfl rfl ?_
  refine jr_aload rfl rfl ?_
  refine jr_lload rfl rfl ?_
  refine jr_cv1 (mc' := 0) (ms' := 0) rfl jm_MD_isWord_n jm_MD_isWord_f rfl rfl rfl rfl rfl rfl rfl (Nat.zero_le _) (Nat.zero_le _) ?_
  refine eM_isWord (B := B) (sz := sz) (t := t + 7) m7 (i := 15) (by decide) jT_W15 ?_
  refine jr_cv1 (mc' := 0) (ms' := 0) rfl jm_MD_must_n jm_MD_must_f rfl rfl rfl rfl rfl rfl rfl (Nat.zero_le _) (Nat.zero_le _) ?_
  refine eM_must_y (B := B) (sz := sz) (t := t + 7) t7 m7 f7 (by rw [if_pos k7]; decide) (fun h8 g8 m8 => ?_)
  have t8 := jX_t_MG g8 t7
  have f8 : jh_I h8 11 0 4 = 0 := (g8.2.2.2 4 (by decide)).trans f7
  have b8 : jh_I h8 11 0 44 = nI β := (g8.2.2.2 44 (by decide)).trans b7
  refine jr_aload rfl rfl ?_
  refine jr_iload rfl rfl ?_
  refine jr_iload rfl rfl ?_
  refine jr_cv2 (mc' := 0) (ms' := 0) rfl jm_MD_numeral_n jm_MD_numeral_f rfl rfl rfl rfl rfl rfl rfl (Nat.zero_le _) (Nat.zero_le _) ?_
  refine eM_num_y (B := B) (sz := sz) (lo := 1) (hi := 31) (t := t + 8) t8 m8 f8 (by omega) (by omega) k8 r8.1 r8.2 (fun h9 g9 m9 => ?_)
  have t9 := jX_t_MG g9 t8
  have f9 : jh_I h9 11 0 4 = 0 := (g9.2.2.2 4 (by decide)).trans f8
  have b9 : jh_I h9 11 0 44 = nI β := (g9.2.2.2 44 (by decide)).trans b8
  refine jr_iret rfl rfl (Nat.zero_le _) (Nat.zero_le _) ?_
  refine jr_iast (len := 24) rfl rfl rfl (by omega) ?_
  refine jr_aload rfl rfl ?_
  refine jr_aload rfl rfl ?_
  refine jr_lc rfl ?_
  refine jr_cv1 (mc' := 0) (ms' := 0) rfl jm_MD_isWord_n jm_MD_isWord_f rfl rfl rfl rfl rfl rfl rfl (Nat.zero_le _) (Nat.zero_le _) ?_
  refine eM_isWord (B := B) (sz := sz) (t := t + 9) m9 (i := 16) (by decide) jT_W16 ?_
  refine jr_cv1 (mc' := 0) (ms' := 0) rfl jm_MD_must_n jm_MD_must_f rfl rfl rfl rfl rfl rfl rfl (Nat.zero_le _) (Nat.zero_le _) ?_
  refine eM_must_y (B := B) (sz := sz) (t := t + 9) t9 m9 f9 (by rw [if_pos k9]; decide) (fun h10 g10 m10 => ?_)
  have t10 := jX_t_MG g10 t9
  have f10 : jh_I h10 11 0 4 = 0 := (g10.2.2.2 4 (by decide)).trans f9
  have b10 : jh_I h10 11 0 44 = nI β := (g10.2.2.2 44 (by decide)).trans b9
  refine jr_aload rfl rfl ?_
  refine jr_getR rfl rfl rfl rfl (Or.inl rfl) ?_
  refine jr_iload rfl rfl ?_
  refine jr_aload rfl rfl ?_
  refine jr_aload rfl rfl ?_
  refine jr_aload rfl rfl ?_
  refine jr_getR rfl rfl rfl rfl (Or.inl rfl) ?_
  refine jr_ic rfl ?_
  refine jr_aload rfl rfl ?_
  refine jr_getI rfl rfl ?_
  refine jr_imul rfl ?_
  refine jr_aload rfl rfl ?_
  refine jr_getR rfl rfl rfl rfl (Or.inl rfl) ?_
  refine jr_aload rfl rfl ?_
  refine jr_getI rfl rfl ?_
  refine jr_iald (len := 2) rfl rfl b10 (by omega) ?_
  rw [show jh_I (h10) 11 0 44 = nI β from b10, show jh_I (h10) 66 0 β = nI (V 0 0) from (congrFun ((g10.1 66 0 (by decide)).trans ((g9.1 66 0 (by decide)).trans ((g8.1 66 0 (by decide)).trans ((g7.1 66 0 (by decide)).trans ((g6.1 66 0 (by decide)).trans ((g5.1 66 0 (by decide)).trans ((g4.1 66 0 (by decide)).trans ((g3.1 66 0 (by decide)).trans ((g2.1 66 0 (by decide)).trans (g1.1 66 0 (by decide))))))))))) β).trans a1, show (6 : Int32) * nI β = nI (6 * β) from jn_mul rfl rfl]
  refine jr_cv3 (mc' := 0) (ms' := 0) rfl jm_MD_here_n jm_MD_here_f rfl rfl rfl rfl rfl rfl rfl (Nat.zero_le _) (Nat.zero_le _) ?_
  refine eM_here_m (B := B) (sz := sz) (t := t + 10) m10 hβ hWm (fun j hj => (congrFun ((g10.2.1 90 0 (by decide)).trans ((g9.2.1 90 0 (by decide)).trans ((g8.2.1 90 0 (by decide)).trans ((g7.2.1 90 0 (by decide)).trans ((g6.2.1 90 0 (by decide)).trans ((g5.2.1 90 0 (by decide)).trans ((g4.2.1 90 0 (by decide)).trans ((g3.2.1 90 0 (by decide)).trans ((g2.2.1 90 0 (by decide)).trans (g1.2.1 90 0 (by decide))))))))))) _).trans ((a2 j hj).2.2)) (by omega) ?_
  rw [if_pos k10, j10]
  refine jr_cv1 (mc' := 0) (ms' := 0) rfl jm_MD_told_n jm_MD_told_f rfl rfl rfl rfl rfl rfl rfl (Nat.zero_le _) (Nat.zero_le _) ?_
  refine eM_told_y (j := m) (B := B) (sz := sz) (t := t + 10) t10 m10 f10 k10 (by omega) ?_
  refine jr_iast (len := 24) rfl rfl rfl (by omega) ?_
  refine jr_aload rfl rfl ?_
  refine jr_cv0 (mc' := 0) (ms' := 0) rfl jm_MD_isGood_n jm_MD_isGood_f rfl rfl rfl rfl rfl rfl rfl (Nat.zero_le _) (Nat.zero_le _) ?_
  show jx_W (jm_MD_isGood, _, _, _, _, _, _) _ 0 0 0 [some _] [] _
  refine jr_aload rfl rfl ?_
  refine jr_getI rfl rfl ?_
  refine jr_if_ne rfl (fun z => absurd f10 z) (fun _ => ?_)
  refine jr_ic rfl ?_
  refine jr_goto rfl ?_
  refine jr_zret rfl rfl rfl (Nat.zero_le _) (Nat.zero_le _) ?_
  refine jr_if_eq rfl (fun z => absurd z (by decide)) (fun _ => ?_)
  refine jr_aload rfl rfl ?_
  refine jr_cv0 (mc' := 0) (ms' := 0) rfl jm_MD_goOn_n jm_MD_goOn_f rfl rfl rfl rfl rfl rfl rfl (Nat.zero_le _) (Nat.zero_le _) ?_
  refine eM_goOn (B := B) (sz := sz) (t := t + 11) t10.1 t10.2.1 t10.2.2.1 m10.2.1 (fun h11 g11 m11 => ?_)
  have t11 := jX_t_MG g11 t10
  have f11 : jh_I h11 11 0 4 = 0 := (g11.2.2.2 4 (by decide)).trans f10
  have b11 : jh_I h11 11 0 44 = nI β := (g11.2.2.2 44 (by decide)).trans b10
  refine jr_aload rfl rfl ?_
  refine jr_getR rfl rfl rfl rfl (Or.inl rfl) ?_
  refine jr_iload rfl rfl ?_
  refine jr_aload rfl rfl ?_
  refine jr_lc rfl ?_
  refine jr_cv1 (mc' := 0) (ms' := 0) rfl jm_MD_has_n jm_MD_has_f rfl rfl rfl rfl rfl rfl rfl (Nat.zero_le _) (Nat.zero_le _) ?_
  refine eM_has_y (B := B) (sz := sz) (i := 17) (t := t + 11) t11 m11 f11 (by decide) jT_W17 k11 (fun h12 g12 m12 => ?_)
  have t12 := jX_t_MG g12 t11
  have f12 : jh_I h12 11 0 4 = 0 := (g12.2.2.2 4 (by decide)).trans f11
  have b12 : jh_I h12 11 0 44 = nI β := (g12.2.2.2 44 (by decide)).trans b11
  refine jr_zast (len := 24) rfl rfl rfl (by omega) ?_
  refine jr_aload rfl rfl ?_
  refine jr_getR rfl rfl rfl rfl (Or.inl rfl) ?_
  refine jr_aload rfl rfl ?_
  refine jr_getI rfl rfl ?_
  refine jr_dup2 rfl ?_
  refine jr_iald (len := 2) rfl rfl b12 (by omega) ?_
  refine jr_ic rfl ?_
  refine jr_iadd rfl ?_
  rw [show jh_I (ju_I (h12) 84 0 (upd (jh_I (h12) 84 0) ((12 * β + V 0 2)) (1 &&& 1))) 68 0 β = nI (V 0 2) from (congrFun ((g12.1 68 0 (by decide)).trans ((g11.1 68 0 (by decide)).trans ((g10.1 68 0 (by decide)).trans ((g9.1 68 0 (by decide)).trans ((g8.1 68 0 (by decide)).trans ((g7.1 68 0 (by decide)).trans ((g6.1 68 0 (by decide)).trans ((g5.1 68 0 (by decide)).trans ((g4.1 68 0 (by decide)).trans ((g3.1 68 0 (by decide)).trans ((g2.1 68 0 (by decide)).trans (g1.1 68 0 (by decide))))))))))))) β).trans c1, show nI (V 0 2) + 1 = nI (V 0 2 + 1) from jn_S _]
  refine jr_iast (len := 2) rfl rfl b12 (by omega) ?_
  refine jr_vret rfl rfl (Nat.zero_le _) (Nat.zero_le _) ?_
  refine k _ (jMF_I (a := 68) (w := 1) (jMF_I (a := 84) (w := 12) (jMF_G (jMF_G (jMF_I (a := 77) (w := 12) (jMF_G (jMF_I (a := 76) (w := 12) (jMF_G (jMF_G (jMF_I (a := 75) (w := 12) (jMF_G (jMF_G (jMF_G (jMF_I (a := 74) (w := 12) (jMF_G (jMF_G (jMF_I (a := 73) (w := 12) (jMF_G (jMF_L (a := 92) (w := 12) (jMF_G (F) g1) (by decide) (by decide) (by omega) (by omega)) g2) (by decide) (by decide) (by omega) (by omega)) g3) g4) (by decide) (by decide) (by omega) (by omega)) g5) g6) g7) (by decide) (by decide) (by omega) (by omega)) g8) g9) (by decide) (by decide) (by omega) (by omega)) g10) (by decide) (by decide) (by omega) (by omega)) g11) g12) (by decide) (by decide) (by omega) (by omega)) (by decide) (by decide) (by omega) (by omega)) (jML_due x t12 m12 f12 b12 ?_ ?_ ?_ ?_ ?_ ?_ ?_ ?_ ?_ ?_ ?_)
  · exact (g12.2.2.2 45 (by decide)).trans ((g11.2.2.2 45 (by decide)).trans ((g10.2.2.2 45 (by decide)).trans ((g9.2.2.2 45 (by decide)).trans ((g8.2.2.2 45 (by decide)).trans ((g7.2.2.2 45 (by decide)).trans ((g6.2.2.2 45 (by decide)).trans ((g5.2.2.2 45 (by decide)).trans ((g4.2.2.2 45 (by decide)).trans ((g3.2.2.2 45 (by decide)).trans ((g2.2.2.2 45 (by decide)).trans (g1.2.2.2 45 (by decide))))))))))))
  · exact congrArg (fun F => upd F (β) (nI (V 0 2 + 1))) ((g12.1 68 0 (by decide)).trans ((g11.1 68 0 (by decide)).trans ((g10.1 68 0 (by decide)).trans ((g9.1 68 0 (by decide)).trans ((g8.1 68 0 (by decide)).trans ((g7.1 68 0 (by decide)).trans ((g6.1 68 0 (by decide)).trans ((g5.1 68 0 (by decide)).trans ((g4.1 68 0 (by decide)).trans ((g3.1 68 0 (by decide)).trans ((g2.1 68 0 (by decide)).trans (g1.1 68 0 (by decide)))))))))))))
  · exact (g12.1 73 0 (by decide)).trans ((g11.1 73 0 (by decide)).trans ((g10.1 73 0 (by decide)).trans ((g9.1 73 0 (by decide)).trans ((g8.1 73 0 (by decide)).trans ((g7.1 73 0 (by decide)).trans ((g6.1 73 0 (by decide)).trans ((g5.1 73 0 (by decide)).trans ((g4.1 73 0 (by decide)).trans ((g3.1 73 0 (by decide)).trans (congrArg (fun F => upd F ((12 * β + V 0 2)) (nI a)) ((g2.1 73 0 (by decide)).trans (g1.1 73 0 (by decide)))))))))))))
  · exact (g12.1 74 0 (by decide)).trans ((g11.1 74 0 (by decide)).trans ((g10.1 74 0 (by decide)).trans ((g9.1 74 0 (by decide)).trans ((g8.1 74 0 (by decide)).trans ((g7.1 74 0 (by decide)).trans ((g6.1 74 0 (by decide)).trans ((g5.1 74 0 (by decide)).trans (congrArg (fun F => upd F ((12 * β + V 0 2)) (nI b)) ((g4.1 74 0 (by decide)).trans ((g3.1 74 0 (by decide)).trans ((g2.1 74 0 (by decide)).trans (g1.1 74 0 (by decide)))))))))))))
  · exact (g12.1 75 0 (by decide)).trans ((g11.1 75 0 (by decide)).trans ((g10.1 75 0 (by decide)).trans ((g9.1 75 0 (by decide)).trans ((g8.1 75 0 (by decide)).trans (congrArg (fun F => upd F ((12 * β + V 0 2)) (nI (jT_v B sz (jT_p B sz (t + 6))))) ((g7.1 75 0 (by decide)).trans ((g6.1 75 0 (by decide)).trans ((g5.1 75 0 (by decide)).trans ((g4.1 75 0 (by decide)).trans ((g3.1 75 0 (by decide)).trans ((g2.1 75 0 (by decide)).trans (g1.1 75 0 (by decide)))))))))))))
  · exact (g12.1 76 0 (by decide)).trans ((g11.1 76 0 (by decide)).trans ((g10.1 76 0 (by decide)).trans (congrArg (fun F => upd F ((12 * β + V 0 2)) (nI (jT_v B sz (jT_p B sz (t + 8))))) ((g9.1 76 0 (by decide)).trans ((g8.1 76 0 (by decide)).trans ((g7.1 76 0 (by decide)).trans ((g6.1 76 0 (by decide)).trans ((g5.1 76 0 (by decide)).trans ((g4.1 76 0 (by decide)).trans ((g3.1 76 0 (by decide)).trans ((g2.1 76 0 (by decide)).trans (g1.1 76 0 (by decide)))))))))))))
  · exact (g12.1 77 0 (by decide)).trans ((g11.1 77 0 (by decide)).trans (congrArg (fun F => upd F ((12 * β + V 0 2)) (nI m)) ((g10.1 77 0 (by decide)).trans ((g9.1 77 0 (by decide)).trans ((g8.1 77 0 (by decide)).trans ((g7.1 77 0 (by decide)).trans ((g6.1 77 0 (by decide)).trans ((g5.1 77 0 (by decide)).trans ((g4.1 77 0 (by decide)).trans ((g3.1 77 0 (by decide)).trans ((g2.1 77 0 (by decide)).trans (g1.1 77 0 (by decide)))))))))))))
  · exact congrArg (fun F => upd F ((12 * β + V 0 2)) (1 &&& 1)) ((g12.1 84 0 (by decide)).trans ((g11.1 84 0 (by decide)).trans ((g10.1 84 0 (by decide)).trans ((g9.1 84 0 (by decide)).trans ((g8.1 84 0 (by decide)).trans ((g7.1 84 0 (by decide)).trans ((g6.1 84 0 (by decide)).trans ((g5.1 84 0 (by decide)).trans ((g4.1 84 0 (by decide)).trans ((g3.1 84 0 (by decide)).trans ((g2.1 84 0 (by decide)).trans (g1.1 84 0 (by decide)))))))))))))
  · exact (g12.2.1 92 0 (by decide)).trans ((g11.2.1 92 0 (by decide)).trans ((g10.2.1 92 0 (by decide)).trans ((g9.2.1 92 0 (by decide)).trans ((g8.2.1 92 0 (by decide)).trans ((g7.2.1 92 0 (by decide)).trans ((g6.2.1 92 0 (by decide)).trans ((g5.2.1 92 0 (by decide)).trans ((g4.2.1 92 0 (by decide)).trans ((g3.2.1 92 0 (by decide)).trans ((g2.2.1 92 0 (by decide)).trans (congrArg (fun F => vp_updL F ((12 * β + V 0 2)) ((jT_key (jT_wd B sz (jT_p B sz t))))) (g1.2.1 92 0 (by decide)))))))))))))
  · exact fun a b z11 z68 z73 z74 z75 z76 z77 z84 => (if_neg (fun y => z68 y.1)).trans ((if_neg (fun y => z84 y.1)).trans ((g12.1 a b z11).trans ((g11.1 a b z11).trans ((if_neg (fun y => z77 y.1)).trans ((g10.1 a b z11).trans ((if_neg (fun y => z76 y.1)).trans ((g9.1 a b z11).trans ((g8.1 a b z11).trans ((if_neg (fun y => z75 y.1)).trans ((g7.1 a b z11).trans ((g6.1 a b z11).trans ((g5.1 a b z11).trans ((if_neg (fun y => z74 y.1)).trans ((g4.1 a b z11).trans ((g3.1 a b z11).trans ((if_neg (fun y => z73 y.1)).trans ((g2.1 a b z11).trans (g1.1 a b z11))))))))))))))))))
  · exact fun a b z11 z92 => (g12.2.1 a b z11).trans ((g11.2.1 a b z11).trans ((g10.2.1 a b z11).trans ((g9.2.1 a b z11).trans ((g8.2.1 a b z11).trans ((g7.2.1 a b z11).trans ((g6.2.1 a b z11).trans ((g5.2.1 a b z11).trans ((g4.2.1 a b z11).trans ((g3.2.1 a b z11).trans ((g2.2.1 a b z11).trans ((if_neg (fun y => z92 y.1)).trans (g1.2.1 a b z11))))))))))))

