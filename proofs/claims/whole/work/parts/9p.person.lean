theorem jML_72 {h h' : jx_H} {B : Nat → Int32} {sz β t t' : Nat} {y : Int32} {y2 : Int64} {V : Nat → Nat → Nat} {W : Nat → Nat → List Nat} {D : Nat → Int32} (x : jML h B sz β t V W D) (xt : jX_t h' B sz) (xm : jT_mc h' B sz t') (xg : jh_I h' 11 0 4 = 0) (xb : jh_I h' 11 0 44 = nI β) (xc : jh_I h' 11 0 45 = jh_I h 11 0 45) (e72 : jh_I h' 72 0 = upd (jh_I h 72 0) (5 * β + V 0 1) y) (e91 : jh_L h' 91 0 = vp_updL (jh_L h 91 0) (5 * β + V 0 1) y2)
    (eI : ∀ a b, a ≠ 11 → a ≠ 72 → jh_I h' a b = jh_I h a b) (eL : ∀ a b, a ≠ 11 → a ≠ 91 → jh_L h' a b = jh_L h a b) : jML h' B sz β t' V W D := by
  obtain ⟨⟨-, -, -, -, y69, y45, -, -⟩, ⟨⟨a1, a2⟩, ⟨b1, b2⟩, ⟨c1, c2⟩, r, ⟨s1, s2⟩, s3, s4, s5, s6, s7⟩, d⟩ := x
  have f : ∀ a, a ≠ 11 → a ≠ 72 → jh_I h' a 0 = jh_I h a 0 := fun a => eI a 0
  refine ⟨⟨xt, xm, xg, xb, by rw [f 69 (by decide) (by decide)]; exact y69, xc.trans y45, rfl, rfl⟩, ⟨⟨by rw [f 66 (by decide) (by decide)]; exact a1, fun j hj => by rw [f 70 (by decide) (by decide), f 71 (by decide) (by decide), eL 90 0 (by decide) (by decide)]; exact a2 j hj⟩, ⟨by rw [f 67 (by decide) (by decide)]; exact b1, fun p hp => by rw [e72, e91, jg_un (by omega), jg_Lun (by omega)]; exact b2 p hp⟩,
    ⟨by rw [f 68 (by decide) (by decide)]; exact c1, fun q hp => ?_⟩, fun w hw => jMr_s (r w hw) (f 82 (by decide) (by decide)) (f 83 (by decide) (by decide)) (f 89 (by decide) (by decide)) (f 93 (by decide) (by decide)),
    ⟨by rw [f 85 (by decide) (by decide)]; exact s1, fun q => by rw [f 78 (by decide) (by decide), f 79 (by decide) (by decide)]; exact s2 q⟩, by rw [f 86 (by decide) (by decide)]; exact s3, by rw [f 80 (by decide) (by decide)]; exact s4, by rw [f 87 (by decide) (by decide)]; exact s5, by rw [f 81 (by decide) (by decide)]; exact s6, by rw [f 88 (by decide) (by decide)]; exact s7⟩, by rw [f 93 (by decide) (by decide), f 94 (by decide) (by decide)]; exact d⟩
  unfold jMd
  rw [f 73 (by decide) (by decide), f 74 (by decide) (by decide), f 75 (by decide) (by decide), f 76 (by decide) (by decide), f 77 (by decide) (by decide), f 84 (by decide) (by decide), eL 92 0 (by decide) (by decide)]
  exact c2 q hp
def jpp (h : jx_H) (β n : Nat) : jx_H := ju_I h 67 0 (upd (jh_I h 67 0) β (nI (n + 1)))
theorem jML_pp {h : jx_H} {B : Nat → Int32} {sz β t v : Nat} {w : List Nat} {V : Nat → Nat → Nat} {W : Nat → Nat → List Nat} {D : Nat → Int32} (x : jML h B sz β t V W D) (h72 : jh_I h 72 0 (5 * β + V 0 1) = nI v) (h91 : jh_L h 91 0 (5 * β + V 0 1) = jT_key w) : jML (jpp h β (V 0 1)) B sz β t (jv2 (jv2 V 0 1 (V 0 1 + 1)) 3 (V 0 1) v) (jw2 W 1 (V 0 1) w) D := by
  obtain ⟨⟨q1, q2, q3, q4, q5, q6, q7, q8⟩, ⟨⟨a1, a2⟩, ⟨b1, b2⟩, ⟨c1, c2⟩, r, ⟨s1, s2⟩, s3, s4, s5, s6, s7⟩, d⟩ := x
  refine ⟨⟨q1, q2, q3, q4, q5, q6, q7, q8⟩, ⟨⟨a1, a2⟩, ⟨?_, fun p hp => ?_⟩, ⟨c1, c2⟩, r, ⟨s1, s2⟩, s3, s4, s5, s6, s7⟩, d⟩
  · exact jg_us _ _ _
  · have hp1 : p < V 0 1 + 1 := hp
    by_cases e : p = V 0 1
    · subst e
      rw [jv2_s, jw2_s]
      exact ⟨h72, h91⟩
    · rw [jv2_n (fun y => e y.2), jv2_n (fun y => absurd y.1 (by decide)), jw2_n (fun y => e y.2)]
      exact b2 p (by omega)
set_option maxHeartbeats 800000 in
set_option maxRecDepth 100000 in
theorem eM_person_b0 {d : Nat} {h : jx_H} {Q : Option jx_V → jx_H → Prop} {h0 : jx_H} {B : Nat → Int32} {sz β t : Nat} {V : Nat → Nat → Nat} {W : Nat → Nat → List Nat} {D : Nat → Int32} (x : jML h B sz β t V W D) (F : jMF β h0 h) (hβ : β < 2) (hn : V 0 1 < 5) (hW : jnW (W 1) (V 0 1)) (k0 : ¬ jT_K B sz t = 3) (k : ∀ h', jMF β h0 h' → jh_I h' 11 0 4 = jX_kd (jT_K B sz t) → jPl h' (jT_p B sz t) → Q none h')  : jx_Ev jm_MD_readPerson (d + 14) 0 0 false 1 [jv_r 11 0] h Q := by
  show jx_W (jm_MD_readPerson, d + 14, 0, 0, false, 1, _) Q 0 0 0 [some (jv_r 11 0), none] [] _
  obtain ⟨⟨t0, m0, f0, b0, -, -, -, -⟩, ⟨-, ⟨p1, p2⟩, -⟩, -⟩ := id x
  have xb := b0
  have hr : ∀ j, j < V 0 1 → jh_L h 91 0 (5 * β + j) = jT_key (W 1 j) := fun j hj => (p2 j hj).2
  refine jr_ic rfl ?_
  refine jr_aload rfl rfl ?_
  refine jr_getI rfl rfl ?_
  refine jr_imul rfl ?_
  refine jr_aload rfl rfl ?_
  refine jr_getR rfl rfl rfl rfl (Or.inl rfl) ?_
  refine jr_aload rfl rfl ?_
  refine jr_getI rfl rfl ?_
  refine jr_iald (len := 2) rfl rfl b0 (by omega) ?_
  refine jr_iadd rfl ?_
  rw [xb, p1, show (5 : Int32) * nI β + nI (V 0 1) = nI (5 * β + V 0 1) from jn_add (jn_mul rfl rfl) rfl]
  refine jr_ist1 rfl rfl ?_
  refine jr_aload rfl rfl ?_
  refine jr_getR rfl rfl rfl rfl (Or.inl rfl) ?_
  refine jr_iload rfl rfl ?_
  refine jr_aload rfl rfl ?_
  refine jr_aload rfl rfl ?_
  refine jr_cv0 (mc' := 0) (ms' := 0) rfl jm_MD_personHere_n jm_MD_personHere_f rfl rfl rfl rfl rfl rfl rfl (Nat.zero_le _) (Nat.zero_le _) ?_
  show jx_W (jm_MD_personHere, _, _, _, _, _, _) _ 0 0 0 [some _] [] _
  refine jr_aload rfl rfl ?_
  refine jr_aload rfl rfl ?_
  refine jr_getR rfl rfl rfl rfl (Or.inl rfl) ?_
  refine jr_ic rfl ?_
  refine jr_aload rfl rfl ?_
  refine jr_getI rfl rfl ?_
  refine jr_imul rfl ?_
  refine jr_aload rfl rfl ?_
  refine jr_getR rfl rfl rfl rfl (Or.inl rfl) ?_
  refine jr_aload rfl rfl ?_
  refine jr_getI rfl rfl ?_
  refine jr_iald (len := 2) rfl rfl b0 (by omega) ?_
  rw [xb, p1, show (5 : Int32) * nI β = nI (5 * β) from jn_mul rfl rfl]
  refine jr_cv3 (mc' := 0) (ms' := 0) rfl jm_MD_here_n jm_MD_here_f rfl rfl rfl rfl rfl rfl rfl (Nat.zero_le _) (Nat.zero_le _) ?_
  refine eM_here_p m0 hβ hW hr (by omega) ?_
  refine jr_iret rfl rfl (Nat.zero_le _) (Nat.zero_le _) ?_
  rw [if_neg k0]
  refine jr_cv1 (mc' := 0) (ms' := 0) rfl jm_MD_fresh_n jm_MD_fresh_f rfl rfl rfl rfl rfl rfl rfl (Nat.zero_le _) (Nat.zero_le _) ?_
  refine eM_fresh_n (B := B) (sz := sz) (t := t) t0 m0 f0 k0 (fun h1 v g1 => ?_)
  have e1 : ¬ jh_I h1 11 0 4 = 0 := by rw [g1.2.2.2.1]; exact jX_kd_n _
  have m1 := jT_mc_ft g1 m0
  have b1 : jh_I h1 11 0 44 = nI β := (g1.2.2.1 44 (by decide) (by decide)).trans b0
  refine jr_last (len := 10) rfl rfl rfl (by omega) ?_
  refine jr_aload rfl rfl ?_
  refine jr_getR rfl rfl rfl rfl (Or.inl rfl) ?_
  refine jr_iload rfl rfl ?_
  refine jr_aload rfl rfl ?_
  refine jr_lc rfl ?_
  refine jr_ic rfl ?_
  refine jr_ic rfl ?_
  refine jr_cv3 (mc' := 0) (ms' := 0) rfl jm_MD_after_n jm_MD_after_f rfl rfl rfl rfl rfl rfl rfl (Nat.zero_le _) (Nat.zero_le _) ?_
  show jx_W (jm_MD_after, _, _, _, _, _, _) _ 0 0 0 [some _, some _, none, some _, some _] [] _
  refine jr_aload rfl rfl ?_
  refine jr_aload rfl rfl ?_
  refine jr_lload rfl rfl ?_
  refine jr_cv1 (mc' := 0) (ms' := 0) rfl jm_MD_isWord_n jm_MD_isWord_f rfl rfl rfl rfl rfl rfl rfl (Nat.zero_le _) (Nat.zero_le _) ?_
  refine eM_isWord (B := B) (sz := sz) (t := t) m1 (i := 10) (by decide) jT_W10 ?_
  refine jr_cv1 (mc' := 0) (ms' := 0) rfl jm_MD_must_n jm_MD_must_f rfl rfl rfl rfl rfl rfl rfl (Nat.zero_le _) (Nat.zero_le _) ?_
  refine eM_must_b e1 ?_
  refine jr_aload rfl rfl ?_
  refine jr_iload rfl rfl ?_
  refine jr_iload rfl rfl ?_
  refine jr_cv2 (mc' := 0) (ms' := 0) rfl jm_MD_numeral_n jm_MD_numeral_f rfl rfl rfl rfl rfl rfl rfl (Nat.zero_le _) (Nat.zero_le _) ?_
  refine eM_num_b (lo := 0) (hi := 9) e1 ?_
  refine jr_iret rfl rfl (Nat.zero_le _) (Nat.zero_le _) ?_
  refine jr_iast (len := 10) rfl rfl rfl (by omega) ?_
  refine jr_aload rfl rfl ?_
  refine jr_lc rfl ?_
  refine jr_cv1 (mc' := 0) (ms' := 0) rfl jm_MD_has_n jm_MD_has_f rfl rfl rfl rfl rfl rfl rfl (Nat.zero_le _) (Nat.zero_le _) ?_
  refine eM_has_b e1 ?_
  refine jr_if_eq rfl (fun _ => ?_) (fun z => absurd (by decide) z)
  refine jr_aload rfl rfl ?_
  refine jr_getR rfl rfl rfl rfl (Or.inl rfl) ?_
  refine jr_aload rfl rfl ?_
  refine jr_getI rfl rfl ?_
  refine jr_dup2 rfl ?_
  refine jr_iald (len := 2) rfl rfl b1 (by omega) ?_
  refine jr_ic rfl ?_
  refine jr_iadd rfl ?_
  rw [show jh_I (ju_I (ju_L (h1) 91 0 (vp_updL (jh_L (h1) 91 0) ((5 * β + V 0 1)) (v))) 72 0 (upd (jh_I (ju_L (h1) 91 0 (vp_updL (jh_L (h1) 91 0) ((5 * β + V 0 1)) (v))) 72 0) ((5 * β + V 0 1)) (nI 0))) 67 0 β = nI (V 0 1) from (congrFun (g1.1 67 0 (by decide)) β).trans p1, show nI (V 0 1) + 1 = nI (V 0 1 + 1) from jn_S _]
  refine jr_iast (len := 2) rfl rfl b1 (by omega) ?_
  refine jr_vret rfl rfl (Nat.zero_le _) (Nat.zero_le _) ?_
  exact k _ (jMF_I (a := 67) (w := 1) (jMF_I (a := 72) (w := 5) (jMF_L (a := 91) (w := 5) (jMF_ft (F) g1) (by decide) (by decide) (by omega) (by omega)) (by decide) (by decide) (by omega) (by omega)) (by decide) (by decide) (by omega) (by omega)) g1.2.2.2.1 g1.2.2.2.2

set_option maxHeartbeats 800000 in
set_option maxRecDepth 100000 in
theorem eM_person_b1 {d : Nat} {h : jx_H} {Q : Option jx_V → jx_H → Prop} {h0 : jx_H} {B : Nat → Int32} {sz β t : Nat} {V : Nat → Nat → Nat} {W : Nat → Nat → List Nat} {D : Nat → Int32} (x : jML h B sz β t V W D) (F : jMF β h0 h) (hβ : β < 2) (hn : V 0 1 < 5) (hW : jnW (W 1) (V 0 1)) (k0 : jT_K B sz t = 3) (n0 : ∃ j, jnF (W 1) (jT_wd B sz (jT_p B sz t)) (V 0 1) 0 = some j) (k : ∀ h', jMF β h0 h' → jh_I h' 11 0 4 = 3 → jPl h' (jT_p B sz t) → Q none h')  : jx_Ev jm_MD_readPerson (d + 14) 0 0 false 1 [jv_r 11 0] h Q := by
  show jx_W (jm_MD_readPerson, d + 14, 0, 0, false, 1, _) Q 0 0 0 [some (jv_r 11 0), none] [] _
  obtain ⟨⟨t0, m0, f0, b0, -, -, -, -⟩, ⟨-, ⟨p1, p2⟩, -⟩, -⟩ := id x
  have xb := b0
  have hr : ∀ j, j < V 0 1 → jh_L h 91 0 (5 * β + j) = jT_key (W 1 j) := fun j hj => (p2 j hj).2
  refine jr_ic rfl ?_
  refine jr_aload rfl rfl ?_
  refine jr_getI rfl rfl ?_
  refine jr_imul rfl ?_
  refine jr_aload rfl rfl ?_
  refine jr_getR rfl rfl rfl rfl (Or.inl rfl) ?_
  refine jr_aload rfl rfl ?_
  refine jr_getI rfl rfl ?_
  refine jr_iald (len := 2) rfl rfl b0 (by omega) ?_
  refine jr_iadd rfl ?_
  rw [xb, p1, show (5 : Int32) * nI β + nI (V 0 1) = nI (5 * β + V 0 1) from jn_add (jn_mul rfl rfl) rfl]
  refine jr_ist1 rfl rfl ?_
  refine jr_aload rfl rfl ?_
  refine jr_getR rfl rfl rfl rfl (Or.inl rfl) ?_
  refine jr_iload rfl rfl ?_
  refine jr_aload rfl rfl ?_
  refine jr_aload rfl rfl ?_
  refine jr_cv0 (mc' := 0) (ms' := 0) rfl jm_MD_personHere_n jm_MD_personHere_f rfl rfl rfl rfl rfl rfl rfl (Nat.zero_le _) (Nat.zero_le _) ?_
  show jx_W (jm_MD_personHere, _, _, _, _, _, _) _ 0 0 0 [some _] [] _
  refine jr_aload rfl rfl ?_
  refine jr_aload rfl rfl ?_
  refine jr_getR rfl rfl rfl rfl (Or.inl rfl) ?_
  refine jr_ic rfl ?_
  refine jr_aload rfl rfl ?_
  refine jr_getI rfl rfl ?_
  refine jr_imul rfl ?_
  refine jr_aload rfl rfl ?_
  refine jr_getR rfl rfl rfl rfl (Or.inl rfl) ?_
  refine jr_aload rfl rfl ?_
  refine jr_getI rfl rfl ?_
  refine jr_iald (len := 2) rfl rfl b0 (by omega) ?_
  rw [xb, p1, show (5 : Int32) * nI β = nI (5 * β) from jn_mul rfl rfl]
  refine jr_cv3 (mc' := 0) (ms' := 0) rfl jm_MD_here_n jm_MD_here_f rfl rfl rfl rfl rfl rfl rfl (Nat.zero_le _) (Nat.zero_le _) ?_
  refine eM_here_p m0 hβ hW hr (by omega) ?_
  refine jr_iret rfl rfl (Nat.zero_le _) (Nat.zero_le _) ?_
  rw [if_pos k0]
  obtain ⟨j, n0⟩ := n0
  have hj := (jnF_lt _ _ j n0).2.1
  rw [n0]
  refine jr_cv1 (mc' := 0) (ms' := 0) rfl jm_MD_fresh_n jm_MD_fresh_f rfl rfl rfl rfl rfl rfl rfl (Nat.zero_le _) (Nat.zero_le _) ?_
  refine eM_fresh_d (B := B) (sz := sz) (j := j) (t := t) t0 m0 f0 k0 (by omega) (fun h1 v g1 => ?_)
  have e1 : ¬ jh_I h1 11 0 4 = 0 := by rw [g1.2.2.2.1]; exact (by decide)
  have m1 := jT_mc_ft g1 m0
  have b1 : jh_I h1 11 0 44 = nI β := (g1.2.2.1 44 (by decide) (by decide)).trans b0
  refine jr_last (len := 10) rfl rfl rfl (by omega) ?_
  refine jr_aload rfl rfl ?_
  refine jr_getR rfl rfl rfl rfl (Or.inl rfl) ?_
  refine jr_iload rfl rfl ?_
  refine jr_aload rfl rfl ?_
  refine jr_lc rfl ?_
  refine jr_ic rfl ?_
  refine jr_ic rfl ?_
  refine jr_cv3 (mc' := 0) (ms' := 0) rfl jm_MD_after_n jm_MD_after_f rfl rfl rfl rfl rfl rfl rfl (Nat.zero_le _) (Nat.zero_le _) ?_
  show jx_W (jm_MD_after, _, _, _, _, _, _) _ 0 0 0 [some _, some _, none, some _, some _] [] _
  refine jr_aload rfl rfl ?_
  refine jr_aload rfl rfl ?_
  refine jr_lload rfl rfl ?_
  refine jr_cv1 (mc' := 0) (ms' := 0) rfl jm_MD_isWord_n jm_MD_isWord_f rfl rfl rfl rfl rfl rfl rfl (Nat.zero_le _) (Nat.zero_le _) ?_
  refine eM_isWord (B := B) (sz := sz) (t := t) m1 (i := 10) (by decide) jT_W10 ?_
  refine jr_cv1 (mc' := 0) (ms' := 0) rfl jm_MD_must_n jm_MD_must_f rfl rfl rfl rfl rfl rfl rfl (Nat.zero_le _) (Nat.zero_le _) ?_
  refine eM_must_b e1 ?_
  refine jr_aload rfl rfl ?_
  refine jr_iload rfl rfl ?_
  refine jr_iload rfl rfl ?_
  refine jr_cv2 (mc' := 0) (ms' := 0) rfl jm_MD_numeral_n jm_MD_numeral_f rfl rfl rfl rfl rfl rfl rfl (Nat.zero_le _) (Nat.zero_le _) ?_
  refine eM_num_b (lo := 0) (hi := 9) e1 ?_
  refine jr_iret rfl rfl (Nat.zero_le _) (Nat.zero_le _) ?_
  refine jr_iast (len := 10) rfl rfl rfl (by omega) ?_
  refine jr_aload rfl rfl ?_
  refine jr_lc rfl ?_
  refine jr_cv1 (mc' := 0) (ms' := 0) rfl jm_MD_has_n jm_MD_has_f rfl rfl rfl rfl rfl rfl rfl (Nat.zero_le _) (Nat.zero_le _) ?_
  refine eM_has_b e1 ?_
  refine jr_if_eq rfl (fun _ => ?_) (fun z => absurd (by decide) z)
  refine jr_aload rfl rfl ?_
  refine jr_getR rfl rfl rfl rfl (Or.inl rfl) ?_
  refine jr_aload rfl rfl ?_
  refine jr_getI rfl rfl ?_
  refine jr_dup2 rfl ?_
  refine jr_iald (len := 2) rfl rfl b1 (by omega) ?_
  refine jr_ic rfl ?_
  refine jr_iadd rfl ?_
  rw [show jh_I (ju_I (ju_L (h1) 91 0 (vp_updL (jh_L (h1) 91 0) ((5 * β + V 0 1)) (v))) 72 0 (upd (jh_I (ju_L (h1) 91 0 (vp_updL (jh_L (h1) 91 0) ((5 * β + V 0 1)) (v))) 72 0) ((5 * β + V 0 1)) (nI 0))) 67 0 β = nI (V 0 1) from (congrFun (g1.1 67 0 (by decide)) β).trans p1, show nI (V 0 1) + 1 = nI (V 0 1 + 1) from jn_S _]
  refine jr_iast (len := 2) rfl rfl b1 (by omega) ?_
  refine jr_vret rfl rfl (Nat.zero_le _) (Nat.zero_le _) ?_
  exact k _ (jMF_I (a := 67) (w := 1) (jMF_I (a := 72) (w := 5) (jMF_L (a := 91) (w := 5) (jMF_ft (F) g1) (by decide) (by decide) (by omega) (by omega)) (by decide) (by decide) (by omega) (by omega)) (by decide) (by decide) (by omega) (by omega)) g1.2.2.2.1 g1.2.2.2.2

set_option maxHeartbeats 800000 in
set_option maxRecDepth 100000 in
theorem eM_person_b2 {d : Nat} {h : jx_H} {Q : Option jx_V → jx_H → Prop} {h0 : jx_H} {B : Nat → Int32} {sz β t : Nat} {V : Nat → Nat → Nat} {W : Nat → Nat → List Nat} {D : Nat → Int32} (x : jML h B sz β t V W D) (F : jMF β h0 h) (hβ : β < 2) (hn : V 0 1 < 5) (hW : jnW (W 1) (V 0 1)) (k0 : jT_K B sz t = 3) (n0 : jnF (W 1) (jT_wd B sz (jT_p B sz t)) (V 0 1) 0 = none) (k1 : ¬ jT_K B sz (t + 1) = 110) (k : ∀ h', jMF β h0 h' → jh_I h' 11 0 4 = jX_kd (jT_K B sz (t + 1)) → jPl h' (jT_p B sz (t + 1)) → Q none h')  : jx_Ev jm_MD_readPerson (d + 14) 0 0 false 1 [jv_r 11 0] h Q := by
  show jx_W (jm_MD_readPerson, d + 14, 0, 0, false, 1, _) Q 0 0 0 [some (jv_r 11 0), none] [] _
  obtain ⟨⟨t0, m0, f0, b0, -, -, -, -⟩, ⟨-, ⟨p1, p2⟩, -⟩, -⟩ := id x
  have xb := b0
  have hr : ∀ j, j < V 0 1 → jh_L h 91 0 (5 * β + j) = jT_key (W 1 j) := fun j hj => (p2 j hj).2
  refine jr_ic rfl ?_
  refine jr_aload rfl rfl ?_
  refine jr_getI rfl rfl ?_
  refine jr_imul rfl ?_
  refine jr_aload rfl rfl ?_
  refine jr_getR rfl rfl rfl rfl (Or.inl rfl) ?_
  refine jr_aload rfl rfl ?_
  refine jr_getI rfl rfl ?_
  refine jr_iald (len := 2) rfl rfl b0 (by omega) ?_
  refine jr_iadd rfl ?_
  rw [xb, p1, show (5 : Int32) * nI β + nI (V 0 1) = nI (5 * β + V 0 1) from jn_add (jn_mul rfl rfl) rfl]
  refine jr_ist1 rfl rfl ?_
  refine jr_aload rfl rfl ?_
  refine jr_getR rfl rfl rfl rfl (Or.inl rfl) ?_
  refine jr_iload rfl rfl ?_
  refine jr_aload rfl rfl ?_
  refine jr_aload rfl rfl ?_
  refine jr_cv0 (mc' := 0) (ms' := 0) rfl jm_MD_personHere_n jm_MD_personHere_f rfl rfl rfl rfl rfl rfl rfl (Nat.zero_le _) (Nat.zero_le _) ?_
  show jx_W (jm_MD_personHere, _, _, _, _, _, _) _ 0 0 0 [some _] [] _
  refine jr_aload rfl rfl ?_
  refine jr_aload rfl rfl ?_
  refine jr_getR rfl rfl rfl rfl (Or.inl rfl) ?_
  refine jr_ic rfl ?_
  refine jr_aload rfl rfl ?_
  refine jr_getI rfl rfl ?_
  refine jr_imul rfl ?_
  refine jr_aload rfl rfl ?_
  refine jr_getR rfl rfl rfl rfl (Or.inl rfl) ?_
  refine jr_aload rfl rfl ?_
  refine jr_getI rfl rfl ?_
  refine jr_iald (len := 2) rfl rfl b0 (by omega) ?_
  rw [xb, p1, show (5 : Int32) * nI β = nI (5 * β) from jn_mul rfl rfl]
  refine jr_cv3 (mc' := 0) (ms' := 0) rfl jm_MD_here_n jm_MD_here_f rfl rfl rfl rfl rfl rfl rfl (Nat.zero_le _) (Nat.zero_le _) ?_
  refine eM_here_p m0 hβ hW hr (by omega) ?_
  refine jr_iret rfl rfl (Nat.zero_le _) (Nat.zero_le _) ?_
  rw [if_pos k0, n0]
  refine jr_cv1 (mc' := 0) (ms' := 0) rfl jm_MD_fresh_n jm_MD_fresh_f rfl rfl rfl rfl rfl rfl rfl (Nat.zero_le _) (Nat.zero_le _) ?_
  refine eM_fresh_y (B := B) (sz := sz) (t := t) t0 m0 f0 k0 (fun h1 g1 m1 => ?_)
  have t1 := jX_t_MG g1 t0
  have f1 : jh_I h1 11 0 4 = 0 := (g1.2.2.2 4 (by decide)).trans f0
  have b1 : jh_I h1 11 0 44 = nI β := (g1.2.2.2 44 (by decide)).trans b0
  refine jr_last (len := 10) rfl rfl rfl (by omega) ?_
  refine jr_aload rfl rfl ?_
  refine jr_getR rfl rfl rfl rfl (Or.inl rfl) ?_
  refine jr_iload rfl rfl ?_
  refine jr_aload rfl rfl ?_
  refine jr_lc rfl ?_
  refine jr_ic rfl ?_
  refine jr_ic rfl ?_
  refine jr_cv3 (mc' := 0) (ms' := 0) rfl jm_MD_after_n jm_MD_after_f rfl rfl rfl rfl rfl rfl rfl (Nat.zero_le _) (Nat.zero_le _) ?_
  show jx_W (jm_MD_after, _, _, _, _, _, _) _ 0 0 0 [some _, some _, none, some _, some _] [] _
  refine jr_aload rfl rfl ?_
  refine jr_aload rfl rfl ?_
  refine jr_lload rfl rfl ?_
  refine jr_cv1 (mc' := 0) (ms' := 0) rfl jm_MD_isWord_n jm_MD_isWord_f rfl rfl rfl rfl rfl rfl rfl (Nat.zero_le _) (Nat.zero_le _) ?_
  refine eM_isWord (B := B) (sz := sz) (t := t + 1) m1 (i := 10) (by decide) jT_W10 ?_
  refine jr_cv1 (mc' := 0) (ms' := 0) rfl jm_MD_must_n jm_MD_must_f rfl rfl rfl rfl rfl rfl rfl (Nat.zero_le _) (Nat.zero_le _) ?_
  refine eM_must_n (B := B) (sz := sz) (t := t + 1) t1 m1 f1 (if_neg k1) (fun h2 g2 => ?_)
  have e2 : ¬ jh_I h2 11 0 4 = 0 := by rw [g2.2.2.2.1]; exact jX_kd_n _
  have m2 := jT_mc_ft g2 m1
  have b2 : jh_I h2 11 0 44 = nI β := (g2.2.2.1 44 (by decide) (by decide)).trans b1
  refine jr_aload rfl rfl ?_
  refine jr_iload rfl rfl ?_
  refine jr_iload rfl rfl ?_
  refine jr_cv2 (mc' := 0) (ms' := 0) rfl jm_MD_numeral_n jm_MD_numeral_f rfl rfl rfl rfl rfl rfl rfl (Nat.zero_le _) (Nat.zero_le _) ?_
  refine eM_num_b (lo := 0) (hi := 9) e2 ?_
  refine jr_iret rfl rfl (Nat.zero_le _) (Nat.zero_le _) ?_
  refine jr_iast (len := 10) rfl rfl rfl (by omega) ?_
  refine jr_aload rfl rfl ?_
  refine jr_lc rfl ?_
  refine jr_cv1 (mc' := 0) (ms' := 0) rfl jm_MD_has_n jm_MD_has_f rfl rfl rfl rfl rfl rfl rfl (Nat.zero_le _) (Nat.zero_le _) ?_
  refine eM_has_b e2 ?_
  refine jr_if_eq rfl (fun _ => ?_) (fun z => absurd (by decide) z)
  refine jr_aload rfl rfl ?_
  refine jr_getR rfl rfl rfl rfl (Or.inl rfl) ?_
  refine jr_aload rfl rfl ?_
  refine jr_getI rfl rfl ?_
  refine jr_dup2 rfl ?_
  refine jr_iald (len := 2) rfl rfl b2 (by omega) ?_
  refine jr_ic rfl ?_
  refine jr_iadd rfl ?_
  rw [show jh_I (ju_I (h2) 72 0 (upd (jh_I (h2) 72 0) ((5 * β + V 0 1)) (nI 0))) 67 0 β = nI (V 0 1) from (congrFun ((g2.1 67 0 (by decide)).trans (g1.1 67 0 (by decide))) β).trans p1, show nI (V 0 1) + 1 = nI (V 0 1 + 1) from jn_S _]
  refine jr_iast (len := 2) rfl rfl b2 (by omega) ?_
  refine jr_vret rfl rfl (Nat.zero_le _) (Nat.zero_le _) ?_
  exact k _ (jMF_I (a := 67) (w := 1) (jMF_I (a := 72) (w := 5) (jMF_ft (jMF_L (a := 91) (w := 5) (jMF_G (F) g1) (by decide) (by decide) (by omega) (by omega)) g2) (by decide) (by decide) (by omega) (by omega)) (by decide) (by decide) (by omega) (by omega)) g2.2.2.2.1 g2.2.2.2.2

set_option maxHeartbeats 800000 in
set_option maxRecDepth 100000 in
theorem eM_person_b3 {d : Nat} {h : jx_H} {Q : Option jx_V → jx_H → Prop} {h0 : jx_H} {B : Nat → Int32} {sz β t : Nat} {V : Nat → Nat → Nat} {W : Nat → Nat → List Nat} {D : Nat → Int32} (x : jML h B sz β t V W D) (F : jMF β h0 h) (hβ : β < 2) (hn : V 0 1 < 5) (hW : jnW (W 1) (V 0 1)) (k0 : jT_K B sz t = 3) (n0 : jnF (W 1) (jT_wd B sz (jT_p B sz t)) (V 0 1) 0 = none) (k1 : jT_K B sz (t + 1) = 110) (k2 : ¬ jT_K B sz (t + 2) = 2) (k : ∀ h', jMF β h0 h' → jh_I h' 11 0 4 = jX_kd (jT_K B sz (t + 2)) → jPl h' (jT_p B sz (t + 2)) → Q none h')  : jx_Ev jm_MD_readPerson (d + 14) 0 0 false 1 [jv_r 11 0] h Q := by
  show jx_W (jm_MD_readPerson, d + 14, 0, 0, false, 1, _) Q 0 0 0 [some (jv_r 11 0), none] [] _
  obtain ⟨⟨t0, m0, f0, b0, -, -, -, -⟩, ⟨-, ⟨p1, p2⟩, -⟩, -⟩ := id x
  have xb := b0
  have hr : ∀ j, j < V 0 1 → jh_L h 91 0 (5 * β + j) = jT_key (W 1 j) := fun j hj => (p2 j hj).2
  refine jr_ic rfl ?_
  refine jr_aload rfl rfl ?_
  refine jr_getI rfl rfl ?_
  refine jr_imul rfl ?_
  refine jr_aload rfl rfl ?_
  refine jr_getR rfl rfl rfl rfl (Or.inl rfl) ?_
  refine jr_aload rfl rfl ?_
  refine jr_getI rfl rfl ?_
  refine jr_iald (len := 2) rfl rfl b0 (by omega) ?_
  refine jr_iadd rfl ?_
  rw [xb, p1, show (5 : Int32) * nI β + nI (V 0 1) = nI (5 * β + V 0 1) from jn_add (jn_mul rfl rfl) rfl]
  refine jr_ist1 rfl rfl ?_
  refine jr_aload rfl rfl ?_
  refine jr_getR rfl rfl rfl rfl (Or.inl rfl) ?_
  refine jr_iload rfl rfl ?_
  refine jr_aload rfl rfl ?_
  refine jr_aload rfl rfl ?_
  refine jr_cv0 (mc' := 0) (ms' := 0) rfl jm_MD_personHere_n jm_MD_personHere_f rfl rfl rfl rfl rfl rfl rfl (Nat.zero_le _) (Nat.zero_le _) ?_
  show jx_W (jm_MD_personHere, _, _, _, _, _, _) _ 0 0 0 [some _] [] _
  refine jr_aload rfl rfl ?_
  refine jr_aload rfl rfl ?_
  refine jr_getR rfl rfl rfl rfl (Or.inl rfl) ?_
  refine jr_ic rfl ?_
  refine jr_aload rfl rfl ?_
  refine jr_getI rfl rfl ?_
  refine jr_imul rfl ?_
  refine jr_aload rfl rfl ?_
  refine jr_getR rfl rfl rfl rfl (Or.inl rfl) ?_
  refine jr_aload rfl rfl ?_
  refine jr_getI rfl rfl ?_
  refine jr_iald (len := 2) rfl rfl b0 (by omega) ?_
  rw [xb, p1, show (5 : Int32) * nI β = nI (5 * β) from jn_mul rfl rfl]
  refine jr_cv3 (mc' := 0) (ms' := 0) rfl jm_MD_here_n jm_MD_here_f rfl rfl rfl rfl rfl rfl rfl (Nat.zero_le _) (Nat.zero_le _) ?_
  refine eM_here_p m0 hβ hW hr (by omega) ?_
  refine jr_iret rfl rfl (Nat.zero_le _) (Nat.zero_le _) ?_
  rw [if_pos k0, n0]
  refine jr_cv1 (mc' := 0) (ms' := 0) rfl jm_MD_fresh_n jm_MD_fresh_f rfl rfl rfl rfl rfl rfl rfl (Nat.zero_le _) (Nat.zero_le _) ?_
  refine eM_fresh_y (B := B) (sz := sz) (t := t) t0 m0 f0 k0 (fun h1 g1 m1 => ?_)
  have t1 := jX_t_MG g1 t0
  have f1 : jh_I h1 11 0 4 = 0 := (g1.2.2.2 4 (by decide)).trans f0
  have b1 : jh_I h1 11 0 44 = nI β := (g1.2.2.2 44 (by decide)).trans b0
  refine jr_last (len := 10) rfl rfl rfl (by omega) ?_
  refine jr_aload rfl rfl ?_
  refine jr_getR rfl rfl rfl rfl (Or.inl rfl) ?_
  refine jr_iload rfl rfl ?_
  refine jr_aload rfl rfl ?_
  refine jr_lc rfl ?_
  refine jr_ic rfl ?_
  refine jr_ic rfl ?_
  refine jr_cv3 (mc' := 0) (ms' := 0) rfl jm_MD_after_n jm_MD_after_f rfl rfl rfl rfl rfl rfl rfl (Nat.zero_le _) (Nat.zero_le _) ?_
  show jx_W (jm_MD_after, _, _, _, _, _, _) _ 0 0 0 [some _, some _, none, some _, some _] [] _
  refine jr_aload rfl rfl ?_
  refine jr_aload rfl rfl ?_
  refine jr_lload rfl rfl ?_
  refine jr_cv1 (mc' := 0) (ms' := 0) rfl jm_MD_isWord_n jm_MD_isWord_f rfl rfl rfl rfl rfl rfl rfl (Nat.zero_le _) (Nat.zero_le _) ?_
  refine eM_isWord (B := B) (sz := sz) (t := t + 1) m1 (i := 10) (by decide) jT_W10 ?_
  refine jr_cv1 (mc' := 0) (ms' := 0) rfl jm_MD_must_n jm_MD_must_f rfl rfl rfl rfl rfl rfl rfl (Nat.zero_le _) (Nat.zero_le _) ?_
  refine eM_must_y (B := B) (sz := sz) (t := t + 1) t1 m1 f1 (by rw [if_pos k1]; decide) (fun h2 g2 m2 => ?_)
  have t2 := jX_t_MG g2 t1
  have f2 : jh_I h2 11 0 4 = 0 := (g2.2.2.2 4 (by decide)).trans f1
  have b2 : jh_I h2 11 0 44 = nI β := (g2.2.2.2 44 (by decide)).trans b1
  refine jr_aload rfl rfl ?_
  refine jr_iload rfl rfl ?_
  refine jr_iload rfl rfl ?_
  refine jr_cv2 (mc' := 0) (ms' := 0) rfl jm_MD_numeral_n jm_MD_numeral_f rfl rfl rfl rfl rfl rfl rfl (Nat.zero_le _) (Nat.zero_le _) ?_
  refine eM_num_n (B := B) (sz := sz) (lo := 0) (hi := 9) (t := t + 2) t2 m2 f2 k2 (fun h3 g3 => ?_)
  have e3 : ¬ jh_I h3 11 0 4 = 0 := by rw [g3.2.2.2.1]; exact jX_kd_n _
  have m3 := jT_mc_ft g3 m2
  have b3 : jh_I h3 11 0 44 = nI β := (g3.2.2.1 44 (by decide) (by decide)).trans b2
  refine jr_iret rfl rfl (Nat.zero_le _) (Nat.zero_le _) ?_
  refine jr_iast (len := 10) rfl rfl rfl (by omega) ?_
  refine jr_aload rfl rfl ?_
  refine jr_lc rfl ?_
  refine jr_cv1 (mc' := 0) (ms' := 0) rfl jm_MD_has_n jm_MD_has_f rfl rfl rfl rfl rfl rfl rfl (Nat.zero_le _) (Nat.zero_le _) ?_
  refine eM_has_b e3 ?_
  refine jr_if_eq rfl (fun _ => ?_) (fun z => absurd (by decide) z)
  refine jr_aload rfl rfl ?_
  refine jr_getR rfl rfl rfl rfl (Or.inl rfl) ?_
  refine jr_aload rfl rfl ?_
  refine jr_getI rfl rfl ?_
  refine jr_dup2 rfl ?_
  refine jr_iald (len := 2) rfl rfl b3 (by omega) ?_
  refine jr_ic rfl ?_
  refine jr_iadd rfl ?_
  rw [show jh_I (ju_I (h3) 72 0 (upd (jh_I (h3) 72 0) ((5 * β + V 0 1)) (nI 0))) 67 0 β = nI (V 0 1) from (congrFun ((g3.1 67 0 (by decide)).trans ((g2.1 67 0 (by decide)).trans (g1.1 67 0 (by decide)))) β).trans p1, show nI (V 0 1) + 1 = nI (V 0 1 + 1) from jn_S _]
  refine jr_iast (len := 2) rfl rfl b3 (by omega) ?_
  refine jr_vret rfl rfl (Nat.zero_le _) (Nat.zero_le _) ?_
  exact k _ (jMF_I (a := 67) (w := 1) (jMF_I (a := 72) (w := 5) (jMF_ft (jMF_G (jMF_L (a := 91) (w := 5) (jMF_G (F) g1) (by decide) (by decide) (by omega) (by omega)) g2) g3) (by decide) (by decide) (by omega) (by omega)) (by decide) (by decide) (by omega) (by omega)) g3.2.2.2.1 g3.2.2.2.2

set_option maxHeartbeats 800000 in
set_option maxRecDepth 100000 in
theorem eM_person_b4 {d : Nat} {h : jx_H} {Q : Option jx_V → jx_H → Prop} {h0 : jx_H} {B : Nat → Int32} {sz β t : Nat} {V : Nat → Nat → Nat} {W : Nat → Nat → List Nat} {D : Nat → Int32} (x : jML h B sz β t V W D) (F : jMF β h0 h) (hβ : β < 2) (hn : V 0 1 < 5) (hW : jnW (W 1) (V 0 1)) (k0 : jT_K B sz t = 3) (n0 : jnF (W 1) (jT_wd B sz (jT_p B sz t)) (V 0 1) 0 = none) (k1 : jT_K B sz (t + 1) = 110) (k2 : jT_K B sz (t + 2) = 2) (r2 : jT_v B sz (jT_p B sz (t + 2)) < 0 ∨ 9 < jT_v B sz (jT_p B sz (t + 2))) (k : ∀ h', jMF β h0 h' → jh_I h' 11 0 4 = 4 → jPl h' (jT_p B sz (t + 2)) → Q none h')  : jx_Ev jm_MD_readPerson (d + 14) 0 0 false 1 [jv_r 11 0] h Q := by
  show jx_W (jm_MD_readPerson, d + 14, 0, 0, false, 1, _) Q 0 0 0 [some (jv_r 11 0), none] [] _
  obtain ⟨⟨t0, m0, f0, b0, -, -, -, -⟩, ⟨-, ⟨p1, p2⟩, -⟩, -⟩ := id x
  have xb := b0
  have hr : ∀ j, j < V 0 1 → jh_L h 91 0 (5 * β + j) = jT_key (W 1 j) := fun j hj => (p2 j hj).2
  refine jr_ic rfl ?_
  refine jr_aload rfl rfl ?_
  refine jr_getI rfl rfl ?_
  refine jr_imul rfl ?_
  refine jr_aload rfl rfl ?_
  refine jr_getR rfl rfl rfl rfl (Or.inl rfl) ?_
  refine jr_aload rfl rfl ?_
  refine jr_getI rfl rfl ?_
  refine jr_iald (len := 2) rfl rfl b0 (by omega) ?_
  refine jr_iadd rfl ?_
  rw [xb, p1, show (5 : Int32) * nI β + nI (V 0 1) = nI (5 * β + V 0 1) from jn_add (jn_mul rfl rfl) rfl]
  refine jr_ist1 rfl rfl ?_
  refine jr_aload rfl rfl ?_
  refine jr_getR rfl rfl rfl rfl (Or.inl rfl) ?_
  refine jr_iload rfl rfl ?_
  refine jr_aload rfl rfl ?_
  refine jr_aload rfl rfl ?_
  refine jr_cv0 (mc' := 0) (ms' := 0) rfl jm_MD_personHere_n jm_MD_personHere_f rfl rfl rfl rfl rfl rfl rfl (Nat.zero_le _) (Nat.zero_le _) ?_
  show jx_W (jm_MD_personHere, _, _, _, _, _, _) _ 0 0 0 [some _] [] _
  refine jr_aload rfl rfl ?_
  refine jr_aload rfl rfl ?_
  refine jr_getR rfl rfl rfl rfl (Or.inl rfl) ?_
  refine jr_ic rfl ?_
  refine jr_aload rfl rfl ?_
  refine jr_getI rfl rfl ?_
  refine jr_imul rfl ?_
  refine jr_aload rfl rfl ?_
  refine jr_getR rfl rfl rfl rfl (Or.inl rfl) ?_
  refine jr_aload rfl rfl ?_
  refine jr_getI rfl rfl ?_
  refine jr_iald (len := 2) rfl rfl b0 (by omega) ?_
  rw [xb, p1, show (5 : Int32) * nI β = nI (5 * β) from jn_mul rfl rfl]
  refine jr_cv3 (mc' := 0) (ms' := 0) rfl jm_MD_here_n jm_MD_here_f rfl rfl rfl rfl rfl rfl rfl (Nat.zero_le _) (Nat.zero_le _) ?_
  refine eM_here_p m0 hβ hW hr (by omega) ?_
  refine jr_iret rfl rfl (Nat.zero_le _) (Nat.zero_le _) ?_
  rw [if_pos k0, n0]
  refine jr_cv1 (mc' := 0) (ms' := 0) rfl jm_MD_fresh_n jm_MD_fresh_f rfl rfl rfl rfl rfl rfl rfl (Nat.zero_le _) (Nat.zero_le _) ?_
  refine eM_fresh_y (B := B) (sz := sz) (t := t) t0 m0 f0 k0 (fun h1 g1 m1 => ?_)
  have t1 := jX_t_MG g1 t0
  have f1 : jh_I h1 11 0 4 = 0 := (g1.2.2.2 4 (by decide)).trans f0
  have b1 : jh_I h1 11 0 44 = nI β := (g1.2.2.2 44 (by decide)).trans b0
  refine jr_last (len := 10) rfl rfl rfl (by omega) ?_
  refine jr_aload rfl rfl ?_
  refine jr_getR rfl rfl rfl rfl (Or.inl rfl) ?_
  refine jr_iload rfl rfl ?_
  refine jr_aload rfl rfl ?_
  refine jr_lc rfl ?_
  refine jr_ic rfl ?_
  refine jr_ic rfl ?_
  refine jr_cv3 (mc' := 0) (ms' := 0) rfl jm_MD_after_n jm_MD_after_f rfl rfl rfl rfl rfl rfl rfl (Nat.zero_le _) (Nat.zero_le _) ?_
  show jx_W (jm_MD_after, _, _, _, _, _, _) _ 0 0 0 [some _, some _, none, some _, some _] [] _
  refine jr_aload rfl rfl ?_
  refine jr_aload rfl rfl ?_
  refine jr_lload rfl rfl ?_
  refine jr_cv1 (mc' := 0) (ms' := 0) rfl jm_MD_isWord_n jm_MD_isWord_f rfl rfl rfl rfl rfl rfl rfl (Nat.zero_le _) (Nat.zero_le _) ?_
  refine eM_isWord (B := B) (sz := sz) (t := t + 1) m1 (i := 10) (by decide) jT_W10 ?_
  refine jr_cv1 (mc' := 0) (ms' := 0) rfl jm_MD_must_n jm_MD_must_f rfl rfl rfl rfl rfl rfl rfl (Nat.zero_le _) (Nat.zero_le _) ?_
  refine eM_must_y (B := B) (sz := sz) (t := t + 1) t1 m1 f1 (by rw [if_pos k1]; decide) (fun h2 g2 m2 => ?_)
  have t2 := jX_t_MG g2 t1
  have f2 : jh_I h2 11 0 4 = 0 := (g2.2.2.2 4 (by decide)).trans f1
  have b2 : jh_I h2 11 0 44 = nI β := (g2.2.2.2 44 (by decide)).trans b1
  refine jr_aload rfl rfl ?_
  refine jr_iload rfl rfl ?_
  refine jr_iload rfl rfl ?_
  refine jr_cv2 (mc' := 0) (ms' := 0) rfl jm_MD_numeral_n jm_MD_numeral_f rfl rfl rfl rfl rfl rfl rfl (Nat.zero_le _) (Nat.zero_le _) ?_
  refine eM_num_r (B := B) (sz := sz) (lo := 0) (hi := 9) (t := t + 2) t2 m2 f2 (by omega) (by omega) k2 r2 (fun h3 g3 => ?_)
  have e3 : ¬ jh_I h3 11 0 4 = 0 := by rw [g3.2.2.2.1]; exact (by decide)
  have m3 := jT_mc_ft g3 m2
  have b3 : jh_I h3 11 0 44 = nI β := (g3.2.2.1 44 (by decide) (by decide)).trans b2
  refine jr_iret rfl rfl (Nat.zero_le _) (Nat.zero_le _) ?_
  refine jr_iast (len := 10) rfl rfl rfl (by omega) ?_
  refine jr_aload rfl rfl ?_
  refine jr_lc rfl ?_
  refine jr_cv1 (mc' := 0) (ms' := 0) rfl jm_MD_has_n jm_MD_has_f rfl rfl rfl rfl rfl rfl rfl (Nat.zero_le _) (Nat.zero_le _) ?_
  refine eM_has_b e3 ?_
  refine jr_if_eq rfl (fun _ => ?_) (fun z => absurd (by decide) z)
  refine jr_aload rfl rfl ?_
  refine jr_getR rfl rfl rfl rfl (Or.inl rfl) ?_
  refine jr_aload rfl rfl ?_
  refine jr_getI rfl rfl ?_
  refine jr_dup2 rfl ?_
  refine jr_iald (len := 2) rfl rfl b3 (by omega) ?_
  refine jr_ic rfl ?_
  refine jr_iadd rfl ?_
  rw [show jh_I (ju_I (h3) 72 0 (upd (jh_I (h3) 72 0) ((5 * β + V 0 1)) (nI 0))) 67 0 β = nI (V 0 1) from (congrFun ((g3.1 67 0 (by decide)).trans ((g2.1 67 0 (by decide)).trans (g1.1 67 0 (by decide)))) β).trans p1, show nI (V 0 1) + 1 = nI (V 0 1 + 1) from jn_S _]
  refine jr_iast (len := 2) rfl rfl b3 (by omega) ?_
  refine jr_vret rfl rfl (Nat.zero_le _) (Nat.zero_le _) ?_
  exact k _ (jMF_I (a := 67) (w := 1) (jMF_I (a := 72) (w := 5) (jMF_ft (jMF_G (jMF_L (a := 91) (w := 5) (jMF_G (F) g1) (by decide) (by decide) (by omega) (by omega)) g2) g3) (by decide) (by decide) (by omega) (by omega)) (by decide) (by decide) (by omega) (by omega)) g3.2.2.2.1 g3.2.2.2.2

set_option maxHeartbeats 800000 in
set_option maxRecDepth 100000 in
theorem eM_person_g0 {d : Nat} {h : jx_H} {Q : Option jx_V → jx_H → Prop} {h0 : jx_H} {B : Nat → Int32} {sz β t : Nat} {V : Nat → Nat → Nat} {W : Nat → Nat → List Nat} {D : Nat → Int32} (x : jML h B sz β t V W D) (F : jMF β h0 h) (hβ : β < 2) (hn : V 0 1 < 5) (hW : jnW (W 1) (V 0 1)) (k0 : jT_K B sz t = 3) (n0 : jnF (W 1) (jT_wd B sz (jT_p B sz t)) (V 0 1) 0 = none) (k1 : jT_K B sz (t + 1) = 110) (k2 : jT_K B sz (t + 2) = 2) (r2 : jT_v B sz (jT_p B sz (t + 2)) ≤ 9) (k3 : ¬ jT_K B sz (t + 3) = 111) (k : ∀ h', jMF β h0 h' → jML h' B sz β (t + 3) (jv2 (jv2 V 0 1 (V 0 1 + 1)) 3 (V 0 1) (jT_v B sz (jT_p B sz (t + 2)))) (jw2 W 1 (V 0 1) (jT_wd B sz (jT_p B sz t))) D → Q none h')  : jx_Ev jm_MD_readPerson (d + 14) 0 0 false 1 [jv_r 11 0] h Q := by
  show jx_W (jm_MD_readPerson, d + 14, 0, 0, false, 1, _) Q 0 0 0 [some (jv_r 11 0), none] [] _
  obtain ⟨⟨t0, m0, f0, b0, -, -, -, -⟩, ⟨-, ⟨p1, p2⟩, -⟩, -⟩ := id x
  have xb := b0
  have hr : ∀ j, j < V 0 1 → jh_L h 91 0 (5 * β + j) = jT_key (W 1 j) := fun j hj => (p2 j hj).2
  refine jr_ic rfl ?_
  refine jr_aload rfl rfl ?_
  refine jr_getI rfl rfl ?_
  refine jr_imul rfl ?_
  refine jr_aload rfl rfl ?_
  refine jr_getR rfl rfl rfl rfl (Or.inl rfl) ?_
  refine jr_aload rfl rfl ?_
  refine jr_getI rfl rfl ?_
  refine jr_iald (len := 2) rfl rfl b0 (by omega) ?_
  refine jr_iadd rfl ?_
  rw [xb, p1, show (5 : Int32) * nI β + nI (V 0 1) = nI (5 * β + V 0 1) from jn_add (jn_mul rfl rfl) rfl]
  refine jr_ist1 rfl rfl ?_
  refine jr_aload rfl rfl ?_
  refine jr_getR rfl rfl rfl rfl (Or.inl rfl) ?_
  refine jr_iload rfl rfl ?_
  refine jr_aload rfl rfl ?_
  refine jr_aload rfl rfl ?_
  refine jr_cv0 (mc' := 0) (ms' := 0) rfl jm_MD_personHere_n jm_MD_personHere_f rfl rfl rfl rfl rfl rfl rfl (Nat.zero_le _) (Nat.zero_le _) ?_
  show jx_W (jm_MD_personHere, _, _, _, _, _, _) _ 0 0 0 [some _] [] _
  refine jr_aload rfl rfl ?_
  refine jr_aload rfl rfl ?_
  refine jr_getR rfl rfl rfl rfl (Or.inl rfl) ?_
  refine jr_ic rfl ?_
  refine jr_aload rfl rfl ?_
  refine jr_getI rfl rfl ?_
  refine jr_imul rfl ?_
  refine jr_aload rfl rfl ?_
  refine jr_getR rfl rfl rfl rfl (Or.inl rfl) ?_
  refine jr_aload rfl rfl ?_
  refine jr_getI rfl rfl ?_
  refine jr_iald (len := 2) rfl rfl b0 (by omega) ?_
  rw [xb, p1, show (5 : Int32) * nI β = nI (5 * β) from jn_mul rfl rfl]
  refine jr_cv3 (mc' := 0) (ms' := 0) rfl jm_MD_here_n jm_MD_here_f rfl rfl rfl rfl rfl rfl rfl (Nat.zero_le _) (Nat.zero_le _) ?_
  refine eM_here_p m0 hβ hW hr (by omega) ?_
  refine jr_iret rfl rfl (Nat.zero_le _) (Nat.zero_le _) ?_
  rw [if_pos k0, n0]
  refine jr_cv1 (mc' := 0) (ms' := 0) rfl jm_MD_fresh_n jm_MD_fresh_f rfl rfl rfl rfl rfl rfl rfl (Nat.zero_le _) (Nat.zero_le _) ?_
  refine eM_fresh_y (B := B) (sz := sz) (t := t) t0 m0 f0 k0 (fun h1 g1 m1 => ?_)
  have t1 := jX_t_MG g1 t0
  have f1 : jh_I h1 11 0 4 = 0 := (g1.2.2.2 4 (by decide)).trans f0
  have b1 : jh_I h1 11 0 44 = nI β := (g1.2.2.2 44 (by decide)).trans b0
  refine jr_last (len := 10) rfl rfl rfl (by omega) ?_
  refine jr_aload rfl rfl ?_
  refine jr_getR rfl rfl rfl rfl (Or.inl rfl) ?_
  refine jr_iload rfl rfl ?_
  refine jr_aload rfl rfl ?_
  refine jr_lc rfl ?_
  refine jr_ic rfl ?_
  refine jr_ic rfl ?_
  refine jr_cv3 (mc' := 0) (ms' := 0) rfl jm_MD_after_n jm_MD_after_f rfl rfl rfl rfl rfl rfl rfl (Nat.zero_le _) (Nat.zero_le _) ?_
  show jx_W (jm_MD_after, _, _, _, _, _, _) _ 0 0 0 [some _, some _, none, some _, some _] [] _
  refine jr_aload rfl rfl ?_
  refine jr_aload rfl rfl ?_
  refine jr_lload rfl rfl ?_
  refine jr_cv1 (mc' := 0) (ms' := 0) rfl jm_MD_isWord_n jm_MD_isWord_f rfl rfl rfl rfl rfl rfl rfl (Nat.zero_le _) (Nat.zero_le _) ?_
  refine eM_isWord (B := B) (sz := sz) (t := t + 1) m1 (i := 10) (by decide) jT_W10 ?_
  refine jr_cv1 (mc' := 0) (ms' := 0) rfl jm_MD_must_n jm_MD_must_f rfl rfl rfl rfl rfl rfl rfl (Nat.zero_le _) (Nat.zero_le _) ?_
  refine eM_must_y (B := B) (sz := sz) (t := t + 1) t1 m1 f1 (by rw [if_pos k1]; decide) (fun h2 g2 m2 => ?_)
  have t2 := jX_t_MG g2 t1
  have f2 : jh_I h2 11 0 4 = 0 := (g2.2.2.2 4 (by decide)).trans f1
  have b2 : jh_I h2 11 0 44 = nI β := (g2.2.2.2 44 (by decide)).trans b1
  refine jr_aload rfl rfl ?_
  refine jr_iload rfl rfl ?_
  refine jr_iload rfl rfl ?_
  refine jr_cv2 (mc' := 0) (ms' := 0) rfl jm_MD_numeral_n jm_MD_numeral_f rfl rfl rfl rfl rfl rfl rfl (Nat.zero_le _) (Nat.zero_le _) ?_
  refine eM_num_y (B := B) (sz := sz) (lo := 0) (hi := 9) (t := t + 2) t2 m2 f2 (by omega) (by omega) k2 (Nat.zero_le _) r2 (fun h3 g3 m3 => ?_)
  have t3 := jX_t_MG g3 t2
  have f3 : jh_I h3 11 0 4 = 0 := (g3.2.2.2 4 (by decide)).trans f2
  have b3 : jh_I h3 11 0 44 = nI β := (g3.2.2.2 44 (by decide)).trans b2
  refine jr_iret rfl rfl (Nat.zero_le _) (Nat.zero_le _) ?_
  refine jr_iast (len := 10) rfl rfl rfl (by omega) ?_
  refine jr_aload rfl rfl ?_
  refine jr_lc rfl ?_
  refine jr_cv1 (mc' := 0) (ms' := 0) rfl jm_MD_has_n jm_MD_has_f rfl rfl rfl rfl rfl rfl rfl (Nat.zero_le _) (Nat.zero_le _) ?_
  refine eM_has_n (B := B) (sz := sz) (i := 11) (t := t + 3) t3 m3 f3 (by decide) jT_W11 k3 ?_
  refine jr_if_eq rfl (fun _ => ?_) (fun z => absurd (by decide) z)
  refine jr_aload rfl rfl ?_
  refine jr_getR rfl rfl rfl rfl (Or.inl rfl) ?_
  refine jr_aload rfl rfl ?_
  refine jr_getI rfl rfl ?_
  refine jr_dup2 rfl ?_
  refine jr_iald (len := 2) rfl rfl b3 (by omega) ?_
  refine jr_ic rfl ?_
  refine jr_iadd rfl ?_
  rw [show jh_I (ju_I (h3) 72 0 (upd (jh_I (h3) 72 0) ((5 * β + V 0 1)) (nI (jT_v B sz (jT_p B sz (t + 2)))))) 67 0 β = nI (V 0 1) from (congrFun ((g3.1 67 0 (by decide)).trans ((g2.1 67 0 (by decide)).trans (g1.1 67 0 (by decide)))) β).trans p1, show nI (V 0 1) + 1 = nI (V 0 1 + 1) from jn_S _]
  refine jr_iast (len := 2) rfl rfl b3 (by omega) ?_
  refine jr_vret rfl rfl (Nat.zero_le _) (Nat.zero_le _) ?_
  have xe : jML (ju_I (h3) 72 0 (upd (jh_I (h3) 72 0) ((5 * β + V 0 1)) (nI (jT_v B sz (jT_p B sz (t + 2)))))) B sz β (t + 3) V W D := jML_72 (y := nI (jT_v B sz (jT_p B sz (t + 2)))) (y2 := jT_key (jT_wd B sz (jT_p B sz t))) x t3 m3 f3 b3 ((g3.2.2.2 45 (by decide)).trans ((g2.2.2.2 45 (by decide)).trans (g1.2.2.2 45 (by decide)))) (congrArg (fun F => upd F ((5 * β + V 0 1)) (nI (jT_v B sz (jT_p B sz (t + 2))))) ((g3.1 72 0 (by decide)).trans ((g2.1 72 0 (by decide)).trans (g1.1 72 0 (by decide))))) ((g3.2.1 91 0 (by decide)).trans ((g2.2.1 91 0 (by decide)).trans (congrArg (fun F => vp_updL F ((5 * β + V 0 1)) ((jT_key (jT_wd B sz (jT_p B sz t))))) (g1.2.1 91 0 (by decide))))) (fun a b z11 z72 => (if_neg (fun y => z72 y.1)).trans ((g3.1 a b z11).trans ((g2.1 a b z11).trans (g1.1 a b z11)))) (fun a b z11 z91 => (g3.2.1 a b z11).trans ((g2.2.1 a b z11).trans ((if_neg (fun y => z91 y.1)).trans (g1.2.1 a b z11))))
  have Fe : jMF β h0 (ju_I (h3) 72 0 (upd (jh_I (h3) 72 0) ((5 * β + V 0 1)) (nI (jT_v B sz (jT_p B sz (t + 2)))))) := jMF_I (a := 72) (w := 5) (jMF_G (jMF_G (jMF_L (a := 91) (w := 5) (jMF_G (F) g1) (by decide) (by decide) (by omega) (by omega)) g2) g3) (by decide) (by decide) (by omega) (by omega)
  have v72 : jh_I (ju_I (h3) 72 0 (upd (jh_I (h3) 72 0) ((5 * β + V 0 1)) (nI (jT_v B sz (jT_p B sz (t + 2)))))) 72 0 (5 * β + V 0 1) = nI (jT_v B sz (jT_p B sz (t + 2))) := (congrFun (congrArg (fun F => upd F ((5 * β + V 0 1)) (nI (jT_v B sz (jT_p B sz (t + 2))))) ((g3.1 72 0 (by decide)).trans ((g2.1 72 0 (by decide)).trans (g1.1 72 0 (by decide))))) _).trans (jg_us _ _ _)
  have v91 : jh_L (ju_I (h3) 72 0 (upd (jh_I (h3) 72 0) ((5 * β + V 0 1)) (nI (jT_v B sz (jT_p B sz (t + 2)))))) 91 0 (5 * β + V 0 1) = jT_key (jT_wd B sz (jT_p B sz t)) := (congrFun ((g3.2.1 91 0 (by decide)).trans ((g2.2.1 91 0 (by decide)).trans (congrArg (fun F => vp_updL F ((5 * β + V 0 1)) ((jT_key (jT_wd B sz (jT_p B sz t))))) (g1.2.1 91 0 (by decide))))) _).trans (jg_Lus _ _ _)
  exact k _ (jMF_I (a := 67) (w := 1) Fe (by decide) (by decide) (by omega) (by omega)) (jML_pp xe v72 v91)

set_option maxHeartbeats 800000 in
set_option maxRecDepth 100000 in
theorem eM_person_g1 {d : Nat} {h : jx_H} {Q : Option jx_V → jx_H → Prop} {h0 : jx_H} {B : Nat → Int32} {sz β t : Nat} {x1 t1 c1 : Nat} {V : Nat → Nat → Nat} {W : Nat → Nat → List Nat} {D : Nat → Int32} (x : jML h B sz β t V W D) (F : jMF β h0 h) (hβ : β < 2) (hn : V 0 1 < 5) (hW : jnW (W 1) (V 0 1)) (k0 : jT_K B sz t = 3) (n0 : jnF (W 1) (jT_wd B sz (jT_p B sz t)) (V 0 1) 0 = none) (k1 : jT_K B sz (t + 1) = 110) (k2 : jT_K B sz (t + 2) = 2) (r2 : jT_v B sz (jT_p B sz (t + 2)) ≤ 9) (k3 : jT_K B sz (t + 3) = 111) (hV : ∀ w, w < 6 → V 11 w ≤ V 0 4) (hx40 : x1 ≤ 40) (hTR : jTR B sz β 0 0 1 1 (t + 4) (V 0 3) 0 (V 0 4) x1 t1 c1 D) (hrk : jT_rk (jT_K B sz t1) = 0) (k : ∀ h', jMF β h0 h' → jML h' B sz β t1 (jv2 (jv2 (jVr V (V 0 1) (V 0 3 + x1) c1) 0 1 (V 0 1 + 1)) 3 (V 0 1) (jT_v B sz (jT_p B sz (t + 2)))) (jw2 W 1 (V 0 1) (jT_wd B sz (jT_p B sz t))) D → Q none h')  : jx_Ev jm_MD_readPerson (d + 14) 0 0 false 1 [jv_r 11 0] h Q := by
  show jx_W (jm_MD_readPerson, d + 14, 0, 0, false, 1, _) Q 0 0 0 [some (jv_r 11 0), none] [] _
  obtain ⟨⟨t0, m0, f0, b0, -, -, -, -⟩, ⟨-, ⟨p1, p2⟩, -⟩, -⟩ := id x
  have xb := b0
  have hr : ∀ j, j < V 0 1 → jh_L h 91 0 (5 * β + j) = jT_key (W 1 j) := fun j hj => (p2 j hj).2
  refine jr_ic rfl ?_
  refine jr_aload rfl rfl ?_
  refine jr_getI rfl rfl ?_
  refine jr_imul rfl ?_
  refine jr_aload rfl rfl ?_
  refine jr_getR rfl rfl rfl rfl (Or.inl rfl) ?_
  refine jr_aload rfl rfl ?_
  refine jr_getI rfl rfl ?_
  refine jr_iald (len := 2) rfl rfl b0 (by omega) ?_
  refine jr_iadd rfl ?_
  rw [xb, p1, show (5 : Int32) * nI β + nI (V 0 1) = nI (5 * β + V 0 1) from jn_add (jn_mul rfl rfl) rfl]
  refine jr_ist1 rfl rfl ?_
  refine jr_aload rfl rfl ?_
  refine jr_getR rfl rfl rfl rfl (Or.inl rfl) ?_
  refine jr_iload rfl rfl ?_
  refine jr_aload rfl rfl ?_
  refine jr_aload rfl rfl ?_
  refine jr_cv0 (mc' := 0) (ms' := 0) rfl jm_MD_personHere_n jm_MD_personHere_f rfl rfl rfl rfl rfl rfl rfl (Nat.zero_le _) (Nat.zero_le _) ?_
  show jx_W (jm_MD_personHere, _, _, _, _, _, _) _ 0 0 0 [some _] [] _
  refine jr_aload rfl rfl ?_
  refine jr_aload rfl rfl ?_
  refine jr_getR rfl rfl rfl rfl (Or.inl rfl) ?_
  refine jr_ic rfl ?_
  refine jr_aload rfl rfl ?_
  refine jr_getI rfl rfl ?_
  refine jr_imul rfl ?_
  refine jr_aload rfl rfl ?_
  refine jr_getR rfl rfl rfl rfl (Or.inl rfl) ?_
  refine jr_aload rfl rfl ?_
  refine jr_getI rfl rfl ?_
  refine jr_iald (len := 2) rfl rfl b0 (by omega) ?_
  rw [xb, p1, show (5 : Int32) * nI β = nI (5 * β) from jn_mul rfl rfl]
  refine jr_cv3 (mc' := 0) (ms' := 0) rfl jm_MD_here_n jm_MD_here_f rfl rfl rfl rfl rfl rfl rfl (Nat.zero_le _) (Nat.zero_le _) ?_
  refine eM_here_p m0 hβ hW hr (by omega) ?_
  refine jr_iret rfl rfl (Nat.zero_le _) (Nat.zero_le _) ?_
  rw [if_pos k0, n0]
  refine jr_cv1 (mc' := 0) (ms' := 0) rfl jm_MD_fresh_n jm_MD_fresh_f rfl rfl rfl rfl rfl rfl rfl (Nat.zero_le _) (Nat.zero_le _) ?_
  refine eM_fresh_y (B := B) (sz := sz) (t := t) t0 m0 f0 k0 (fun h1 g1 m1 => ?_)
  have t1 := jX_t_MG g1 t0
  have f1 : jh_I h1 11 0 4 = 0 := (g1.2.2.2 4 (by decide)).trans f0
  have b1 : jh_I h1 11 0 44 = nI β := (g1.2.2.2 44 (by decide)).trans b0
  refine jr_last (len := 10) rfl rfl rfl (by omega) ?_
  refine jr_aload rfl rfl ?_
  refine jr_getR rfl rfl rfl rfl (Or.inl rfl) ?_
  refine jr_iload rfl rfl ?_
  refine jr_aload rfl rfl ?_
  refine jr_lc rfl ?_
  refine jr_ic rfl ?_
  refine jr_ic rfl ?_
  refine jr_cv3 (mc' := 0) (ms' := 0) rfl jm_MD_after_n jm_MD_after_f rfl rfl rfl rfl rfl rfl rfl (Nat.zero_le _) (Nat.zero_le _) ?_
  show jx_W (jm_MD_after, _, _, _, _, _, _) _ 0 0 0 [some _, some _, none, some _, some _] [] _
  refine jr_aload rfl rfl ?_
  refine jr_aload rfl rfl ?_
  refine jr_lload rfl rfl ?_
  refine jr_cv1 (mc' := 0) (ms' := 0) rfl jm_MD_isWord_n jm_MD_isWord_f rfl rfl rfl rfl rfl rfl rfl (Nat.zero_le _) (Nat.zero_le _) ?_
  refine eM_isWord (B := B) (sz := sz) (t := t + 1) m1 (i := 10) (by decide) jT_W10 ?_
  refine jr_cv1 (mc' := 0) (ms' := 0) rfl jm_MD_must_n jm_MD_must_f rfl rfl rfl rfl rfl rfl rfl (Nat.zero_le _) (Nat.zero_le _) ?_
  refine eM_must_y (B := B) (sz := sz) (t := t + 1) t1 m1 f1 (by rw [if_pos k1]; decide) (fun h2 g2 m2 => ?_)
  have t2 := jX_t_MG g2 t1
  have f2 : jh_I h2 11 0 4 = 0 := (g2.2.2.2 4 (by decide)).trans f1
  have b2 : jh_I h2 11 0 44 = nI β := (g2.2.2.2 44 (by decide)).trans b1
  refine jr_aload rfl rfl ?_
  refine jr_iload rfl rfl ?_
  refine jr_iload rfl rfl ?_
  refine jr_cv2 (mc' := 0) (ms' := 0) rfl jm_MD_numeral_n jm_MD_numeral_f rfl rfl rfl rfl rfl rfl rfl (Nat.zero_le _) (Nat.zero_le _) ?_
  refine eM_num_y (B := B) (sz := sz) (lo := 0) (hi := 9) (t := t + 2) t2 m2 f2 (by omega) (by omega) k2 (Nat.zero_le _) r2 (fun h3 g3 m3 => ?_)
  have t3 := jX_t_MG g3 t2
  have f3 : jh_I h3 11 0 4 = 0 := (g3.2.2.2 4 (by decide)).trans f2
  have b3 : jh_I h3 11 0 44 = nI β := (g3.2.2.2 44 (by decide)).trans b2
  refine jr_iret rfl rfl (Nat.zero_le _) (Nat.zero_le _) ?_
  refine jr_iast (len := 10) rfl rfl rfl (by omega) ?_
  refine jr_aload rfl rfl ?_
  refine jr_lc rfl ?_
  refine jr_cv1 (mc' := 0) (ms' := 0) rfl jm_MD_has_n jm_MD_has_f rfl rfl rfl rfl rfl rfl rfl (Nat.zero_le _) (Nat.zero_le _) ?_
  refine eM_has_y (B := B) (sz := sz) (i := 11) (t := t + 3) t3 m3 f3 (by decide) jT_W11 k3 (fun h4 g4 m4 => ?_)
  have t4 := jX_t_MG g4 t3
  have f4 : jh_I h4 11 0 4 = 0 := (g4.2.2.2 4 (by decide)).trans f3
  have b4 : jh_I h4 11 0 44 = nI β := (g4.2.2.2 44 (by decide)).trans b3
  refine jr_if_eq rfl (fun z => absurd z (by decide)) (fun _ => ?_)
  refine jr_aload rfl rfl ?_
  refine jr_aload rfl rfl ?_
  refine jr_getR rfl rfl rfl rfl (Or.inl rfl) ?_
  refine jr_aload rfl rfl ?_
  refine jr_getI rfl rfl ?_
  refine jr_iald (len := 2) rfl rfl b4 (by omega) ?_
  rw [show jh_I (h4) 67 0 β = nI (V 0 1) from (congrFun ((g4.1 67 0 (by decide)).trans ((g3.1 67 0 (by decide)).trans ((g2.1 67 0 (by decide)).trans (g1.1 67 0 (by decide))))) β).trans p1]
  refine jr_cv1 (mc' := 0) (ms' := 0) rfl jm_MD_readRule_n jm_MD_readRule_f rfl rfl rfl rfl rfl rfl rfl (Nat.zero_le _) (Nat.zero_le _) ?_
  have xe : jML (h4) B sz β (t + 4) V W D := jML_72 (y := nI (jT_v B sz (jT_p B sz (t + 2)))) (y2 := jT_key (jT_wd B sz (jT_p B sz t))) x t4 m4 f4 b4 ((g4.2.2.2 45 (by decide)).trans ((g3.2.2.2 45 (by decide)).trans ((g2.2.2.2 45 (by decide)).trans (g1.2.2.2 45 (by decide))))) ((g4.1 72 0 (by decide)).trans (congrArg (fun F => upd F ((5 * β + V 0 1)) (nI (jT_v B sz (jT_p B sz (t + 2))))) ((g3.1 72 0 (by decide)).trans ((g2.1 72 0 (by decide)).trans (g1.1 72 0 (by decide)))))) ((g4.2.1 91 0 (by decide)).trans ((g3.2.1 91 0 (by decide)).trans ((g2.2.1 91 0 (by decide)).trans (congrArg (fun F => vp_updL F ((5 * β + V 0 1)) ((jT_key (jT_wd B sz (jT_p B sz t))))) (g1.2.1 91 0 (by decide)))))) (fun a b z11 z72 => (g4.1 a b z11).trans ((if_neg (fun y => z72 y.1)).trans ((g3.1 a b z11).trans ((g2.1 a b z11).trans (g1.1 a b z11))))) (fun a b z11 z91 => (g4.2.1 a b z11).trans ((g3.2.1 a b z11).trans ((g2.2.1 a b z11).trans ((if_neg (fun y => z91 y.1)).trans (g1.2.1 a b z11)))))
  have Fe : jMF β h0 (h4) := jMF_G (jMF_I (a := 72) (w := 5) (jMF_G (jMF_G (jMF_L (a := 91) (w := 5) (jMF_G (F) g1) (by decide) (by decide) (by omega) (by omega)) g2) g3) (by decide) (by decide) (by omega) (by omega)) g4
  have v72 : jh_I (h4) 72 0 (5 * β + V 0 1) = nI (jT_v B sz (jT_p B sz (t + 2))) := (congrFun ((g4.1 72 0 (by decide)).trans (congrArg (fun F => upd F ((5 * β + V 0 1)) (nI (jT_v B sz (jT_p B sz (t + 2))))) ((g3.1 72 0 (by decide)).trans ((g2.1 72 0 (by decide)).trans (g1.1 72 0 (by decide)))))) _).trans (jg_us _ _ _)
  have v91 : jh_L (h4) 91 0 (5 * β + V 0 1) = jT_key (jT_wd B sz (jT_p B sz t)) := (congrFun ((g4.2.1 91 0 (by decide)).trans ((g3.2.1 91 0 (by decide)).trans ((g2.2.1 91 0 (by decide)).trans (congrArg (fun F => vp_updL F ((5 * β + V 0 1)) ((jT_key (jT_wd B sz (jT_p B sz t))))) (g1.2.1 91 0 (by decide)))))) _).trans (jg_Lus _ _ _)
  refine eM_ruleV xe Fe hβ (w := V 0 1) (by omega) hV hx40 hTR hrk (fun h9 F9 g9 x9 => ?_)
  refine jr_aload rfl rfl ?_
  refine jr_getR rfl rfl rfl rfl (Or.inl rfl) ?_
  refine jr_aload rfl rfl ?_
  refine jr_getI rfl rfl ?_
  refine jr_dup2 rfl ?_
  refine jr_iald (len := 2) rfl rfl (show jh_I h9 11 0 44 = nI β from (g9.2.2.2.1 44 (by omega)).trans b4) (by omega) ?_
  refine jr_ic rfl ?_
  refine jr_iadd rfl ?_
  rw [show jh_I h9 67 0 β = nI (V 0 1) from (congrFun (g9.1 67 0 (by decide) (by decide) (by decide) (by decide) (by decide) (by decide) (by decide) (by decide) (by decide)) β).trans ((congrFun ((g4.1 67 0 (by decide)).trans ((g3.1 67 0 (by decide)).trans ((g2.1 67 0 (by decide)).trans (g1.1 67 0 (by decide))))) β).trans p1), show nI (V 0 1) + 1 = nI (V 0 1 + 1) from jn_S _]
  refine jr_iast (len := 2) rfl rfl (show jh_I h9 11 0 44 = nI β from (g9.2.2.2.1 44 (by omega)).trans b4) (by omega) ?_
  refine jr_vret rfl rfl (Nat.zero_le _) (Nat.zero_le _) ?_
  exact k _ (jMF_I (a := 67) (w := 1) F9 (by decide) (by decide) (by omega) (by omega)) (jML_pp (V := jVr V (V 0 1) (V 0 3 + x1) c1) x9 ((congrFun (g9.1 72 0 (by decide) (by decide) (by decide) (by decide) (by decide) (by decide) (by decide) (by decide) (by decide)) _).trans v72) ((congrFun (g9.2.1 91 0 (by decide)) _).trans v91))

set_option maxHeartbeats 800000 in
set_option maxRecDepth 100000 in
theorem eM_person_r4 {d : Nat} {h : jx_H} {Q : Option jx_V → jx_H → Prop} {h0 : jx_H} {B : Nat → Int32} {sz β t : Nat} {x1 t1 c1 : Nat} {V : Nat → Nat → Nat} {W : Nat → Nat → List Nat} {D : Nat → Int32} (x : jML h B sz β t V W D) (F : jMF β h0 h) (hβ : β < 2) (hn : V 0 1 < 5) (hW : jnW (W 1) (V 0 1)) (k0 : jT_K B sz t = 3) (n0 : jnF (W 1) (jT_wd B sz (jT_p B sz t)) (V 0 1) 0 = none) (k1 : jT_K B sz (t + 1) = 110) (k2 : jT_K B sz (t + 2) = 2) (r2 : jT_v B sz (jT_p B sz (t + 2)) ≤ 9) (k3 : jT_K B sz (t + 3) = 111) (hTR : jTR B sz β 0 0 1 1 (t + 4) (V 0 3) 0 (V 0 4) x1 t1 c1 D) (hrk : jT_rk (jT_K B sz t1) = 4) (k : ∀ h', jMF β h0 h' → jh_I h' 11 0 4 = 2 → jPl h' (jT_p B sz t1) → Q none h')  : jx_Ev jm_MD_readPerson (d + 14) 0 0 false 1 [jv_r 11 0] h Q := by
  show jx_W (jm_MD_readPerson, d + 14, 0, 0, false, 1, _) Q 0 0 0 [some (jv_r 11 0), none] [] _
  obtain ⟨⟨t0, m0, f0, b0, -, -, -, -⟩, ⟨-, ⟨p1, p2⟩, -⟩, -⟩ := id x
  have xb := b0
  have hr : ∀ j, j < V 0 1 → jh_L h 91 0 (5 * β + j) = jT_key (W 1 j) := fun j hj => (p2 j hj).2
  refine jr_ic rfl ?_
  refine jr_aload rfl rfl ?_
  refine jr_getI rfl rfl ?_
  refine jr_imul rfl ?_
  refine jr_aload rfl rfl ?_
  refine jr_getR rfl rfl rfl rfl (Or.inl rfl) ?_
  refine jr_aload rfl rfl ?_
  refine jr_getI rfl rfl ?_
  refine jr_iald (len := 2) rfl rfl b0 (by omega) ?_
  refine jr_iadd rfl ?_
  rw [xb, p1, show (5 : Int32) * nI β + nI (V 0 1) = nI (5 * β + V 0 1) from jn_add (jn_mul rfl rfl) rfl]
  refine jr_ist1 rfl rfl ?_
  refine jr_aload rfl rfl ?_
  refine jr_getR rfl rfl rfl rfl (Or.inl rfl) ?_
  refine jr_iload rfl rfl ?_
  refine jr_aload rfl rfl ?_
  refine jr_aload rfl rfl ?_
  refine jr_cv0 (mc' := 0) (ms' := 0) rfl jm_MD_personHere_n jm_MD_personHere_f rfl rfl rfl rfl rfl rfl rfl (Nat.zero_le _) (Nat.zero_le _) ?_
  show jx_W (jm_MD_personHere, _, _, _, _, _, _) _ 0 0 0 [some _] [] _
  refine jr_aload rfl rfl ?_
  refine jr_aload rfl rfl ?_
  refine jr_getR rfl rfl rfl rfl (Or.inl rfl) ?_
  refine jr_ic rfl ?_
  refine jr_aload rfl rfl ?_
  refine jr_getI rfl rfl ?_
  refine jr_imul rfl ?_
  refine jr_aload rfl rfl ?_
  refine jr_getR rfl rfl rfl rfl (Or.inl rfl) ?_
  refine jr_aload rfl rfl ?_
  refine jr_getI rfl rfl ?_
  refine jr_iald (len := 2) rfl rfl b0 (by omega) ?_
  rw [xb, p1, show (5 : Int32) * nI β = nI (5 * β) from jn_mul rfl rfl]
  refine jr_cv3 (mc' := 0) (ms' := 0) rfl jm_MD_here_n jm_MD_here_f rfl rfl rfl rfl rfl rfl rfl (Nat.zero_le _) (Nat.zero_le _) ?_
  refine eM_here_p m0 hβ hW hr (by omega) ?_
  refine jr_iret rfl rfl (Nat.zero_le _) (Nat.zero_le _) ?_
  rw [if_pos k0, n0]
  refine jr_cv1 (mc' := 0) (ms' := 0) rfl jm_MD_fresh_n jm_MD_fresh_f rfl rfl rfl rfl rfl rfl rfl (Nat.zero_le _) (Nat.zero_le _) ?_
  refine eM_fresh_y (B := B) (sz := sz) (t := t) t0 m0 f0 k0 (fun h1 g1 m1 => ?_)
  have t1 := jX_t_MG g1 t0
  have f1 : jh_I h1 11 0 4 = 0 := (g1.2.2.2 4 (by decide)).trans f0
  have b1 : jh_I h1 11 0 44 = nI β := (g1.2.2.2 44 (by decide)).trans b0
  refine jr_last (len := 10) rfl rfl rfl (by omega) ?_
  refine jr_aload rfl rfl ?_
  refine jr_getR rfl rfl rfl rfl (Or.inl rfl) ?_
  refine jr_iload rfl rfl ?_
  refine jr_aload rfl rfl ?_
  refine jr_lc rfl ?_
  refine jr_ic rfl ?_
  refine jr_ic rfl ?_
  refine jr_cv3 (mc' := 0) (ms' := 0) rfl jm_MD_after_n jm_MD_after_f rfl rfl rfl rfl rfl rfl rfl (Nat.zero_le _) (Nat.zero_le _) ?_
  show jx_W (jm_MD_after, _, _, _, _, _, _) _ 0 0 0 [some _, some _, none, some _, some _] [] _
  refine jr_aload rfl rfl ?_
  refine jr_aload rfl rfl ?_
  refine jr_lload rfl rfl ?_
  refine jr_cv1 (mc' := 0) (ms' := 0) rfl jm_MD_isWord_n jm_MD_isWord_f rfl rfl rfl rfl rfl rfl rfl (Nat.zero_le _) (Nat.zero_le _) ?_
  refine eM_isWord (B := B) (sz := sz) (t := t + 1) m1 (i := 10) (by decide) jT_W10 ?_
  refine jr_cv1 (mc' := 0) (ms' := 0) rfl jm_MD_must_n jm_MD_must_f rfl rfl rfl rfl rfl rfl rfl (Nat.zero_le _) (Nat.zero_le _) ?_
  refine eM_must_y (B := B) (sz := sz) (t := t + 1) t1 m1 f1 (by rw [if_pos k1]; decide) (fun h2 g2 m2 => ?_)
  have t2 := jX_t_MG g2 t1
  have f2 : jh_I h2 11 0 4 = 0 := (g2.2.2.2 4 (by decide)).trans f1
  have b2 : jh_I h2 11 0 44 = nI β := (g2.2.2.2 44 (by decide)).trans b1
  refine jr_aload rfl rfl ?_
  refine jr_iload rfl rfl ?_
  refine jr_iload rfl rfl ?_
  refine jr_cv2 (mc' := 0) (ms' := 0) rfl jm_MD_numeral_n jm_MD_numeral_f rfl rfl rfl rfl rfl rfl rfl (Nat.zero_le _) (Nat.zero_le _) ?_
  refine eM_num_y (B := B) (sz := sz) (lo := 0) (hi := 9) (t := t + 2) t2 m2 f2 (by omega) (by omega) k2 (Nat.zero_le _) r2 (fun h3 g3 m3 => ?_)
  have t3 := jX_t_MG g3 t2
  have f3 : jh_I h3 11 0 4 = 0 := (g3.2.2.2 4 (by decide)).trans f2
  have b3 : jh_I h3 11 0 44 = nI β := (g3.2.2.2 44 (by decide)).trans b2
  refine jr_iret rfl rfl (Nat.zero_le _) (Nat.zero_le _) ?_
  refine jr_iast (len := 10) rfl rfl rfl (by omega) ?_
  refine jr_aload rfl rfl ?_
  refine jr_lc rfl ?_
  refine jr_cv1 (mc' := 0) (ms' := 0) rfl jm_MD_has_n jm_MD_has_f rfl rfl rfl rfl rfl rfl rfl (Nat.zero_le _) (Nat.zero_le _) ?_
  refine eM_has_y (B := B) (sz := sz) (i := 11) (t := t + 3) t3 m3 f3 (by decide) jT_W11 k3 (fun h4 g4 m4 => ?_)
  have t4 := jX_t_MG g4 t3
  have f4 : jh_I h4 11 0 4 = 0 := (g4.2.2.2 4 (by decide)).trans f3
  have b4 : jh_I h4 11 0 44 = nI β := (g4.2.2.2 44 (by decide)).trans b3
  refine jr_if_eq rfl (fun z => absurd z (by decide)) (fun _ => ?_)
  refine jr_aload rfl rfl ?_
  refine jr_aload rfl rfl ?_
  refine jr_getR rfl rfl rfl rfl (Or.inl rfl) ?_
  refine jr_aload rfl rfl ?_
  refine jr_getI rfl rfl ?_
  refine jr_iald (len := 2) rfl rfl b4 (by omega) ?_
  rw [show jh_I (h4) 67 0 β = nI (V 0 1) from (congrFun ((g4.1 67 0 (by decide)).trans ((g3.1 67 0 (by decide)).trans ((g2.1 67 0 (by decide)).trans (g1.1 67 0 (by decide))))) β).trans p1]
  refine jr_cv1 (mc' := 0) (ms' := 0) rfl jm_MD_readRule_n jm_MD_readRule_f rfl rfl rfl rfl rfl rfl rfl (Nat.zero_le _) (Nat.zero_le _) ?_
  have xe : jML (h4) B sz β (t + 4) V W D := jML_72 (y := nI (jT_v B sz (jT_p B sz (t + 2)))) (y2 := jT_key (jT_wd B sz (jT_p B sz t))) x t4 m4 f4 b4 ((g4.2.2.2 45 (by decide)).trans ((g3.2.2.2 45 (by decide)).trans ((g2.2.2.2 45 (by decide)).trans (g1.2.2.2 45 (by decide))))) ((g4.1 72 0 (by decide)).trans (congrArg (fun F => upd F ((5 * β + V 0 1)) (nI (jT_v B sz (jT_p B sz (t + 2))))) ((g3.1 72 0 (by decide)).trans ((g2.1 72 0 (by decide)).trans (g1.1 72 0 (by decide)))))) ((g4.2.1 91 0 (by decide)).trans ((g3.2.1 91 0 (by decide)).trans ((g2.2.1 91 0 (by decide)).trans (congrArg (fun F => vp_updL F ((5 * β + V 0 1)) ((jT_key (jT_wd B sz (jT_p B sz t))))) (g1.2.1 91 0 (by decide)))))) (fun a b z11 z72 => (g4.1 a b z11).trans ((if_neg (fun y => z72 y.1)).trans ((g3.1 a b z11).trans ((g2.1 a b z11).trans (g1.1 a b z11))))) (fun a b z11 z91 => (g4.2.1 a b z11).trans ((g3.2.1 a b z11).trans ((g2.2.1 a b z11).trans ((if_neg (fun y => z91 y.1)).trans (g1.2.1 a b z11)))))
  have Fe : jMF β h0 (h4) := jMF_G (jMF_I (a := 72) (w := 5) (jMF_G (jMF_G (jMF_L (a := 91) (w := 5) (jMF_G (F) g1) (by decide) (by decide) (by omega) (by omega)) g2) g3) (by decide) (by decide) (by omega) (by omega)) g4
  have v72 : jh_I (h4) 72 0 (5 * β + V 0 1) = nI (jT_v B sz (jT_p B sz (t + 2))) := (congrFun ((g4.1 72 0 (by decide)).trans (congrArg (fun F => upd F ((5 * β + V 0 1)) (nI (jT_v B sz (jT_p B sz (t + 2))))) ((g3.1 72 0 (by decide)).trans ((g2.1 72 0 (by decide)).trans (g1.1 72 0 (by decide)))))) _).trans (jg_us _ _ _)
  have v91 : jh_L (h4) 91 0 (5 * β + V 0 1) = jT_key (jT_wd B sz (jT_p B sz t)) := (congrFun ((g4.2.1 91 0 (by decide)).trans ((g3.2.1 91 0 (by decide)).trans ((g2.2.1 91 0 (by decide)).trans (congrArg (fun F => vp_updL F ((5 * β + V 0 1)) ((jT_key (jT_wd B sz (jT_p B sz t))))) (g1.2.1 91 0 (by decide)))))) _).trans (jg_Lus _ _ _)
  refine eM_ruleV4 xe Fe hβ (w := V 0 1) (by omega) hTR hrk (fun h9 F9 g9 y1 y2 => ?_)
  refine jr_aload rfl rfl ?_
  refine jr_getR rfl rfl rfl rfl (Or.inl rfl) ?_
  refine jr_aload rfl rfl ?_
  refine jr_getI rfl rfl ?_
  refine jr_dup2 rfl ?_
  refine jr_iald (len := 2) rfl rfl (show jh_I h9 11 0 44 = nI β from (g9.2.2.2.1 44 (by omega)).trans b4) (by omega) ?_
  refine jr_ic rfl ?_
  refine jr_iadd rfl ?_
  rw [show jh_I h9 67 0 β = nI (V 0 1) from (congrFun (g9.1 67 0 (by decide) (by decide) (by decide) (by decide) (by decide) (by decide) (by decide) (by decide) (by decide)) β).trans ((congrFun ((g4.1 67 0 (by decide)).trans ((g3.1 67 0 (by decide)).trans ((g2.1 67 0 (by decide)).trans (g1.1 67 0 (by decide))))) β).trans p1), show nI (V 0 1) + 1 = nI (V 0 1 + 1) from jn_S _]
  refine jr_iast (len := 2) rfl rfl (show jh_I h9 11 0 44 = nI β from (g9.2.2.2.1 44 (by omega)).trans b4) (by omega) ?_
  refine jr_vret rfl rfl (Nat.zero_le _) (Nat.zero_le _) ?_
  exact k _ (jMF_I (a := 67) (w := 1) F9 (by decide) (by decide) (by omega) (by omega)) y1 y2

set_option maxHeartbeats 800000 in
set_option maxRecDepth 100000 in
theorem eM_person_rB {d : Nat} {h : jx_H} {Q : Option jx_V → jx_H → Prop} {h0 : jx_H} {B : Nat → Int32} {sz β t : Nat} {kd : Int32} {pl : Nat} {V : Nat → Nat → Nat} {W : Nat → Nat → List Nat} {D : Nat → Int32} (x : jML h B sz β t V W D) (F : jMF β h0 h) (hβ : β < 2) (hn : V 0 1 < 5) (hW : jnW (W 1) (V 0 1)) (k0 : jT_K B sz t = 3) (n0 : jnF (W 1) (jT_wd B sz (jT_p B sz t)) (V 0 1) 0 = none) (k1 : jT_K B sz (t + 1) = 110) (k2 : jT_K B sz (t + 2) = 2) (r2 : jT_v B sz (jT_p B sz (t + 2)) ≤ 9) (k3 : jT_K B sz (t + 3) = 111) (hkd : kd = 1 ∨ kd = 2) (hTB : jTB B sz β 0 0 1 (t + 4) (V 0 3) 0 (V 0 4) kd pl D) (k : ∀ h', jMF β h0 h' → jh_I h' 11 0 4 = kd → jPl h' pl → Q none h')  : jx_Ev jm_MD_readPerson (d + 14) 0 0 false 1 [jv_r 11 0] h Q := by
  show jx_W (jm_MD_readPerson, d + 14, 0, 0, false, 1, _) Q 0 0 0 [some (jv_r 11 0), none] [] _
  obtain ⟨⟨t0, m0, f0, b0, -, -, -, -⟩, ⟨-, ⟨p1, p2⟩, -⟩, -⟩ := id x
  have xb := b0
  have hr : ∀ j, j < V 0 1 → jh_L h 91 0 (5 * β + j) = jT_key (W 1 j) := fun j hj => (p2 j hj).2
  refine jr_ic rfl ?_
  refine jr_aload rfl rfl ?_
  refine jr_getI rfl rfl ?_
  refine jr_imul rfl ?_
  refine jr_aload rfl rfl ?_
  refine jr_getR rfl rfl rfl rfl (Or.inl rfl) ?_
  refine jr_aload rfl rfl ?_
  refine jr_getI rfl rfl ?_
  refine jr_iald (len := 2) rfl rfl b0 (by omega) ?_
  refine jr_iadd rfl ?_
  rw [xb, p1, show (5 : Int32) * nI β + nI (V 0 1) = nI (5 * β + V 0 1) from jn_add (jn_mul rfl rfl) rfl]
  refine jr_ist1 rfl rfl ?_
  refine jr_aload rfl rfl ?_
  refine jr_getR rfl rfl rfl rfl (Or.inl rfl) ?_
  refine jr_iload rfl rfl ?_
  refine jr_aload rfl rfl ?_
  refine jr_aload rfl rfl ?_
  refine jr_cv0 (mc' := 0) (ms' := 0) rfl jm_MD_personHere_n jm_MD_personHere_f rfl rfl rfl rfl rfl rfl rfl (Nat.zero_le _) (Nat.zero_le _) ?_
  show jx_W (jm_MD_personHere, _, _, _, _, _, _) _ 0 0 0 [some _] [] _
  refine jr_aload rfl rfl ?_
  refine jr_aload rfl rfl ?_
  refine jr_getR rfl rfl rfl rfl (Or.inl rfl) ?_
  refine jr_ic rfl ?_
  refine jr_aload rfl rfl ?_
  refine jr_getI rfl rfl ?_
  refine jr_imul rfl ?_
  refine jr_aload rfl rfl ?_
  refine jr_getR rfl rfl rfl rfl (Or.inl rfl) ?_
  refine jr_aload rfl rfl ?_
  refine jr_getI rfl rfl ?_
  refine jr_iald (len := 2) rfl rfl b0 (by omega) ?_
  rw [xb, p1, show (5 : Int32) * nI β = nI (5 * β) from jn_mul rfl rfl]
  refine jr_cv3 (mc' := 0) (ms' := 0) rfl jm_MD_here_n jm_MD_here_f rfl rfl rfl rfl rfl rfl rfl (Nat.zero_le _) (Nat.zero_le _) ?_
  refine eM_here_p m0 hβ hW hr (by omega) ?_
  refine jr_iret rfl rfl (Nat.zero_le _) (Nat.zero_le _) ?_
  rw [if_pos k0, n0]
  refine jr_cv1 (mc' := 0) (ms' := 0) rfl jm_MD_fresh_n jm_MD_fresh_f rfl rfl rfl rfl rfl rfl rfl (Nat.zero_le _) (Nat.zero_le _) ?_
  refine eM_fresh_y (B := B) (sz := sz) (t := t) t0 m0 f0 k0 (fun h1 g1 m1 => ?_)
  have t1 := jX_t_MG g1 t0
  have f1 : jh_I h1 11 0 4 = 0 := (g1.2.2.2 4 (by decide)).trans f0
  have b1 : jh_I h1 11 0 44 = nI β := (g1.2.2.2 44 (by decide)).trans b0
  refine jr_last (len := 10) rfl rfl rfl (by omega) ?_
  refine jr_aload rfl rfl ?_
  refine jr_getR rfl rfl rfl rfl (Or.inl rfl) ?_
  refine jr_iload rfl rfl ?_
  refine jr_aload rfl rfl ?_
  refine jr_lc rfl ?_
  refine jr_ic rfl ?_
  refine jr_ic rfl ?_
  refine jr_cv3 (mc' := 0) (ms' := 0) rfl jm_MD_after_n jm_MD_after_f rfl rfl rfl rfl rfl rfl rfl (Nat.zero_le _) (Nat.zero_le _) ?_
  show jx_W (jm_MD_after, _, _, _, _, _, _) _ 0 0 0 [some _, some _, none, some _, some _] [] _
  refine jr_aload rfl rfl ?_
  refine jr_aload rfl rfl ?_
  refine jr_lload rfl rfl ?_
  refine jr_cv1 (mc' := 0) (ms' := 0) rfl jm_MD_isWord_n jm_MD_isWord_f rfl rfl rfl rfl rfl rfl rfl (Nat.zero_le _) (Nat.zero_le _) ?_
  refine eM_isWord (B := B) (sz := sz) (t := t + 1) m1 (i := 10) (by decide) jT_W10 ?_
  refine jr_cv1 (mc' := 0) (ms' := 0) rfl jm_MD_must_n jm_MD_must_f rfl rfl rfl rfl rfl rfl rfl (Nat.zero_le _) (Nat.zero_le _) ?_
  refine eM_must_y (B := B) (sz := sz) (t := t + 1) t1 m1 f1 (by rw [if_pos k1]; decide) (fun h2 g2 m2 => ?_)
  have t2 := jX_t_MG g2 t1
  have f2 : jh_I h2 11 0 4 = 0 := (g2.2.2.2 4 (by decide)).trans f1
  have b2 : jh_I h2 11 0 44 = nI β := (g2.2.2.2 44 (by decide)).trans b1
  refine jr_aload rfl rfl ?_
  refine jr_iload rfl rfl ?_
  refine jr_iload rfl rfl ?_
  refine jr_cv2 (mc' := 0) (ms' := 0) rfl jm_MD_numeral_n jm_MD_numeral_f rfl rfl rfl rfl rfl rfl rfl (Nat.zero_le _) (Nat.zero_le _) ?_
  refine eM_num_y (B := B) (sz := sz) (lo := 0) (hi := 9) (t := t + 2) t2 m2 f2 (by omega) (by omega) k2 (Nat.zero_le _) r2 (fun h3 g3 m3 => ?_)
  have t3 := jX_t_MG g3 t2
  have f3 : jh_I h3 11 0 4 = 0 := (g3.2.2.2 4 (by decide)).trans f2
  have b3 : jh_I h3 11 0 44 = nI β := (g3.2.2.2 44 (by decide)).trans b2
  refine jr_iret rfl rfl (Nat.zero_le _) (Nat.zero_le _) ?_
  refine jr_iast (len := 10) rfl rfl rfl (by omega) ?_
  refine jr_aload rfl rfl ?_
  refine jr_lc rfl ?_
  refine jr_cv1 (mc' := 0) (ms' := 0) rfl jm_MD_has_n jm_MD_has_f rfl rfl rfl rfl rfl rfl rfl (Nat.zero_le _) (Nat.zero_le _) ?_
  refine eM_has_y (B := B) (sz := sz) (i := 11) (t := t + 3) t3 m3 f3 (by decide) jT_W11 k3 (fun h4 g4 m4 => ?_)
  have t4 := jX_t_MG g4 t3
  have f4 : jh_I h4 11 0 4 = 0 := (g4.2.2.2 4 (by decide)).trans f3
  have b4 : jh_I h4 11 0 44 = nI β := (g4.2.2.2 44 (by decide)).trans b3
  refine jr_if_eq rfl (fun z => absurd z (by decide)) (fun _ => ?_)
  refine jr_aload rfl rfl ?_
  refine jr_aload rfl rfl ?_
  refine jr_getR rfl rfl rfl rfl (Or.inl rfl) ?_
  refine jr_aload rfl rfl ?_
  refine jr_getI rfl rfl ?_
  refine jr_iald (len := 2) rfl rfl b4 (by omega) ?_
  rw [show jh_I (h4) 67 0 β = nI (V 0 1) from (congrFun ((g4.1 67 0 (by decide)).trans ((g3.1 67 0 (by decide)).trans ((g2.1 67 0 (by decide)).trans (g1.1 67 0 (by decide))))) β).trans p1]
  refine jr_cv1 (mc' := 0) (ms' := 0) rfl jm_MD_readRule_n jm_MD_readRule_f rfl rfl rfl rfl rfl rfl rfl (Nat.zero_le _) (Nat.zero_le _) ?_
  have xe : jML (h4) B sz β (t + 4) V W D := jML_72 (y := nI (jT_v B sz (jT_p B sz (t + 2)))) (y2 := jT_key (jT_wd B sz (jT_p B sz t))) x t4 m4 f4 b4 ((g4.2.2.2 45 (by decide)).trans ((g3.2.2.2 45 (by decide)).trans ((g2.2.2.2 45 (by decide)).trans (g1.2.2.2 45 (by decide))))) ((g4.1 72 0 (by decide)).trans (congrArg (fun F => upd F ((5 * β + V 0 1)) (nI (jT_v B sz (jT_p B sz (t + 2))))) ((g3.1 72 0 (by decide)).trans ((g2.1 72 0 (by decide)).trans (g1.1 72 0 (by decide)))))) ((g4.2.1 91 0 (by decide)).trans ((g3.2.1 91 0 (by decide)).trans ((g2.2.1 91 0 (by decide)).trans (congrArg (fun F => vp_updL F ((5 * β + V 0 1)) ((jT_key (jT_wd B sz (jT_p B sz t))))) (g1.2.1 91 0 (by decide)))))) (fun a b z11 z72 => (g4.1 a b z11).trans ((if_neg (fun y => z72 y.1)).trans ((g3.1 a b z11).trans ((g2.1 a b z11).trans (g1.1 a b z11))))) (fun a b z11 z91 => (g4.2.1 a b z11).trans ((g3.2.1 a b z11).trans ((g2.2.1 a b z11).trans ((if_neg (fun y => z91 y.1)).trans (g1.2.1 a b z11)))))
  have Fe : jMF β h0 (h4) := jMF_G (jMF_I (a := 72) (w := 5) (jMF_G (jMF_G (jMF_L (a := 91) (w := 5) (jMF_G (F) g1) (by decide) (by decide) (by omega) (by omega)) g2) g3) (by decide) (by decide) (by omega) (by omega)) g4
  have v72 : jh_I (h4) 72 0 (5 * β + V 0 1) = nI (jT_v B sz (jT_p B sz (t + 2))) := (congrFun ((g4.1 72 0 (by decide)).trans (congrArg (fun F => upd F ((5 * β + V 0 1)) (nI (jT_v B sz (jT_p B sz (t + 2))))) ((g3.1 72 0 (by decide)).trans ((g2.1 72 0 (by decide)).trans (g1.1 72 0 (by decide)))))) _).trans (jg_us _ _ _)
  have v91 : jh_L (h4) 91 0 (5 * β + V 0 1) = jT_key (jT_wd B sz (jT_p B sz t)) := (congrFun ((g4.2.1 91 0 (by decide)).trans ((g3.2.1 91 0 (by decide)).trans ((g2.2.1 91 0 (by decide)).trans (congrArg (fun F => vp_updL F ((5 * β + V 0 1)) ((jT_key (jT_wd B sz (jT_p B sz t))))) (g1.2.1 91 0 (by decide)))))) _).trans (jg_Lus _ _ _)
  refine eM_ruleVB xe Fe hβ (w := V 0 1) (by omega) hkd hTB (fun h9 F9 g9 y1 y2 => ?_)
  refine jr_aload rfl rfl ?_
  refine jr_getR rfl rfl rfl rfl (Or.inl rfl) ?_
  refine jr_aload rfl rfl ?_
  refine jr_getI rfl rfl ?_
  refine jr_dup2 rfl ?_
  refine jr_iald (len := 2) rfl rfl (show jh_I h9 11 0 44 = nI β from (g9.2.2.2.1 44 (by omega)).trans b4) (by omega) ?_
  refine jr_ic rfl ?_
  refine jr_iadd rfl ?_
  rw [show jh_I h9 67 0 β = nI (V 0 1) from (congrFun (g9.1 67 0 (by decide) (by decide) (by decide) (by decide) (by decide) (by decide) (by decide) (by decide) (by decide)) β).trans ((congrFun ((g4.1 67 0 (by decide)).trans ((g3.1 67 0 (by decide)).trans ((g2.1 67 0 (by decide)).trans (g1.1 67 0 (by decide))))) β).trans p1), show nI (V 0 1) + 1 = nI (V 0 1 + 1) from jn_S _]
  refine jr_iast (len := 2) rfl rfl (show jh_I h9 11 0 44 = nI β from (g9.2.2.2.1 44 (by omega)).trans b4) (by omega) ?_
  refine jr_vret rfl rfl (Nat.zero_le _) (Nat.zero_le _) ?_
  exact k _ (jMF_I (a := 67) (w := 1) F9 (by decide) (by decide) (by omega) (by omega)) y1 y2

