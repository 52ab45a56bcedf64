theorem jML_count {h h' : jx_H} {B : Nat → Int32} {sz β t t' y : Nat} {V : Nat → Nat → Nat} {W : Nat → Nat → List Nat} {D : Nat → Int32} (x : jML h B sz β t V W D) (xt : jX_t h' B sz) (xm : jT_mc h' B sz t') (xg : jh_I h' 11 0 4 = 0) (xb : jh_I h' 11 0 44 = nI β) (xc : jh_I h' 11 0 45 = jh_I h 11 0 45) (e86 : jh_I h' 86 0 = upd (jh_I h 86 0) β 1)
    (e80 : jh_I h' 80 0 = upd (jh_I h 80 0) β (nI y)) (eI : ∀ a b, a ≠ 11 → a ≠ 80 → a ≠ 86 → jh_I h' a b = jh_I h a b) (eL : ∀ a b, a ≠ 11 → jh_L h' a b = jh_L h a b) :
    jML h' B sz β t' (jv2 (jv2 V 0 6 1) 0 10 y) W D := by
  obtain ⟨⟨-, -, -, -, y69, y45, -, -⟩, ⟨⟨a1, a2⟩, ⟨b1, b2⟩, ⟨c1, c2⟩, r, ⟨s1, s2⟩, s3, s4, s5, s6, s7⟩, d⟩ := x
  have f : ∀ a, a ≠ 11 → a ≠ 80 → a ≠ 86 → jh_I h' a 0 = jh_I h a 0 := fun a => eI a 0
  have g := fun a (z : a ≠ 11) => eL a 0 z
  refine ⟨⟨xt, xm, xg, xb, by rw [f 69 (by decide) (by decide) (by decide)]; exact y69, xc.trans y45, rfl, rfl⟩, ⟨⟨by rw [f 66 (by decide) (by decide) (by decide)]; exact a1, fun j hj => by rw [f 70 (by decide) (by decide) (by decide), f 71 (by decide) (by decide) (by decide), g 90 (by decide)]; exact a2 j hj⟩, ⟨by rw [f 67 (by decide) (by decide) (by decide)]; exact b1, fun p hp => by rw [f 72 (by decide) (by decide) (by decide), g 91 (by decide)]; exact b2 p hp⟩,
    ⟨by rw [f 68 (by decide) (by decide) (by decide)]; exact c1, fun p hp => ⟨?_, by rw [g 92 (by decide)]; exact (c2 p hp).2⟩⟩, fun w hw => jMr_s (r w hw) (f 82 (by decide) (by decide) (by decide)) (f 83 (by decide) (by decide) (by decide)) (f 89 (by decide) (by decide) (by decide)) (f 93 (by decide) (by decide) (by decide)),
    ⟨by rw [f 85 (by decide) (by decide) (by decide)]; exact s1, fun q => by rw [f 78 (by decide) (by decide) (by decide), f 79 (by decide) (by decide) (by decide)]; exact s2 q⟩, by rw [e86, jg_us]; rfl, by rw [e80, jg_us]; rfl, by rw [f 87 (by decide) (by decide) (by decide)]; exact s5, by rw [f 81 (by decide) (by decide) (by decide)]; exact s6, by rw [f 88 (by decide) (by decide) (by decide)]; exact s7⟩, by rw [f 93 (by decide) (by decide) (by decide), f 94 (by decide) (by decide) (by decide)]; exact d⟩
  unfold jMd
  rw [f 73 (by decide) (by decide) (by decide), f 74 (by decide) (by decide) (by decide), f 75 (by decide) (by decide) (by decide), f 76 (by decide) (by decide) (by decide), f 77 (by decide) (by decide) (by decide), f 84 (by decide) (by decide) (by decide)]
  exact (c2 p hp).1
set_option maxHeartbeats 800000 in
set_option maxRecDepth 100000 in
theorem eM_count_b {d : Nat} {h : jx_H} {Q : Option jx_V → jx_H → Prop} {h0 : jx_H} {B : Nat → Int32} {sz β t : Nat} {V : Nat → Nat → Nat} {W : Nat → Nat → List Nat} {D : Nat → Int32} (x : jML h B sz β t V W D) (F : jMF β h0 h) (hβ : β < 2) (k0 : jT_K B sz t < 122 ∨ 124 < jT_K B sz t) (k : ∀ h', jMF β h0 h' → jh_I h' 11 0 4 = jX_kd (jT_K B sz t) → jPl h' (jT_p B sz t) → Q none h')  : jx_Ev jm_MD_readCount (d + 8) 0 0 false 1 [jv_r 11 0] h Q := by
  show jx_W (jm_MD_readCount, d + 8, 0, 0, false, 1, _) Q 0 0 0 [some (jv_r 11 0), none] [] _
  obtain ⟨⟨t0, m0, f0, b0, -, -, -, -⟩, -, -⟩ := id x
  refine jr_aload rfl rfl ?_
  refine jr_getR rfl rfl rfl rfl (Or.inl rfl) ?_
  refine jr_aload rfl rfl ?_
  refine jr_getI rfl rfl ?_
  refine jr_ic rfl ?_
  refine jr_zast (len := 2) rfl rfl b0 (by omega) ?_
  refine jr_aload rfl rfl ?_
  refine jr_lc rfl ?_
  refine jr_cv1 (mc' := 0) (ms' := 0) rfl jm_MD_isWord_n jm_MD_isWord_f rfl rfl rfl rfl rfl rfl rfl (Nat.zero_le _) (Nat.zero_le _) ?_
  refine eM_isWord (B := B) (sz := sz) (t := t) m0 (i := 22) (by decide) jT_W22 ?_
  refine jr_if_eq rfl (fun _ => ?_) (fun z => absurd (if_neg (by omega)) z)
  refine jr_aload rfl rfl ?_
  refine jr_lc rfl ?_
  refine jr_cv1 (mc' := 0) (ms' := 0) rfl jm_MD_isWord_n jm_MD_isWord_f rfl rfl rfl rfl rfl rfl rfl (Nat.zero_le _) (Nat.zero_le _) ?_
  refine eM_isWord (B := B) (sz := sz) (t := t) m0 (i := 23) (by decide) jT_W23 ?_
  refine jr_if_eq rfl (fun _ => ?_) (fun z => absurd (if_neg (by omega)) z)
  refine jr_aload rfl rfl ?_
  refine jr_lc rfl ?_
  refine jr_cv1 (mc' := 0) (ms' := 0) rfl jm_MD_isWord_n jm_MD_isWord_f rfl rfl rfl rfl rfl rfl rfl (Nat.zero_le _) (Nat.zero_le _) ?_
  refine eM_isWord (B := B) (sz := sz) (t := t) m0 (i := 24) (by decide) jT_W24 ?_
  refine jr_if_eq rfl (fun _ => ?_) (fun z => absurd (if_neg (by omega)) z)
  refine jr_ic rfl ?_
  refine jr_ist1 rfl rfl ?_
  refine jr_aload rfl rfl ?_
  refine jr_getR rfl rfl rfl rfl (Or.inl rfl) ?_
  refine jr_aload rfl rfl ?_
  refine jr_getI rfl rfl ?_
  refine jr_iload rfl rfl ?_
  refine jr_iast (len := 2) rfl rfl b0 (by omega) ?_
  refine jr_aload rfl rfl ?_
  refine jr_iload rfl rfl ?_
  refine jr_if_lt rfl (fun _ => ?_) (fun z => absurd (by decide) z)
  refine jr_ic rfl ?_
  refine jr_cv1 (mc' := 0) (ms' := 0) rfl jm_MD_must_n jm_MD_must_f rfl rfl rfl rfl rfl rfl rfl (Nat.zero_le _) (Nat.zero_le _) ?_
  refine eM_must_n (B := B) (sz := sz) (t := t) t0 m0 f0 rfl (fun h1 g1 => ?_)
  have e1 : ¬ jh_I h1 11 0 4 = 0 := by rw [g1.2.2.2.1]; exact jX_kd_n _
  have m1 := jT_mc_ft g1 m0
  have b1 : jh_I h1 11 0 44 = nI β := (g1.2.2.1 44 (by decide) (by decide)).trans b0
  refine jr_vret rfl rfl (Nat.zero_le _) (Nat.zero_le _) ?_
  exact k _ (jMF_ft (jMF_I (a := 80) (w := 1) (jMF_I (a := 86) (w := 1) (F) (by decide) (by decide) (by omega) (by omega)) (by decide) (by decide) (by omega) (by omega)) g1) g1.2.2.2.1 g1.2.2.2.2

set_option maxHeartbeats 800000 in
set_option maxRecDepth 100000 in
theorem eM_count_g0 {d : Nat} {h : jx_H} {Q : Option jx_V → jx_H → Prop} {h0 : jx_H} {B : Nat → Int32} {sz β t : Nat} {V : Nat → Nat → Nat} {W : Nat → Nat → List Nat} {D : Nat → Int32} (x : jML h B sz β t V W D) (F : jMF β h0 h) (hβ : β < 2) (k0 : jT_K B sz t = 100 + 22) (k : ∀ h', jMF β h0 h' → jML h' B sz β (t + 1) (jv2 (jv2 V 0 6 1) 0 10 0) W D → Q none h')  : jx_Ev jm_MD_readCount (d + 8) 0 0 false 1 [jv_r 11 0] h Q := by
  show jx_W (jm_MD_readCount, d + 8, 0, 0, false, 1, _) Q 0 0 0 [some (jv_r 11 0), none] [] _
  obtain ⟨⟨t0, m0, f0, b0, -, -, -, -⟩, -, -⟩ := id x
  refine jr_aload rfl rfl ?_
  refine jr_getR rfl rfl rfl rfl (Or.inl rfl) ?_
  refine jr_aload rfl rfl ?_
  refine jr_getI rfl rfl ?_
  refine jr_ic rfl ?_
  refine jr_zast (len := 2) rfl rfl b0 (by omega) ?_
  refine jr_aload rfl rfl ?_
  refine jr_lc rfl ?_
  refine jr_cv1 (mc' := 0) (ms' := 0) rfl jm_MD_isWord_n jm_MD_isWord_f rfl rfl rfl rfl rfl rfl rfl (Nat.zero_le _) (Nat.zero_le _) ?_
  refine eM_isWord (B := B) (sz := sz) (t := t) m0 (i := 22) (by decide) jT_W22 ?_
  refine jr_if_eq rfl (fun z => absurd z (by rw [if_pos k0]; decide)) (fun _ => ?_)
  refine jr_ic rfl ?_
  refine jr_goto rfl ?_
  refine jr_ist1 rfl rfl ?_
  refine jr_aload rfl rfl ?_
  refine jr_getR rfl rfl rfl rfl (Or.inl rfl) ?_
  refine jr_aload rfl rfl ?_
  refine jr_getI rfl rfl ?_
  refine jr_iload rfl rfl ?_
  refine jr_iast (len := 2) rfl rfl b0 (by omega) ?_
  refine jr_aload rfl rfl ?_
  refine jr_iload rfl rfl ?_
  refine jr_if_lt rfl (fun z => absurd z (by decide)) (fun _ => ?_)
  refine jr_ic rfl ?_
  refine jr_goto rfl ?_
  refine jr_cv1 (mc' := 0) (ms' := 0) rfl jm_MD_must_n jm_MD_must_f rfl rfl rfl rfl rfl rfl rfl (Nat.zero_le _) (Nat.zero_le _) ?_
  refine eM_must_y (B := B) (sz := sz) (t := t) t0 m0 f0 (by decide) (fun h1 g1 m1 => ?_)
  have t1 := jX_t_MG g1 t0
  have f1 : jh_I h1 11 0 4 = 0 := (g1.2.2.2 4 (by decide)).trans f0
  have b1 : jh_I h1 11 0 44 = nI β := (g1.2.2.2 44 (by decide)).trans b0
  refine jr_vret rfl rfl (Nat.zero_le _) (Nat.zero_le _) ?_
  refine k _ (jMF_G (jMF_I (a := 80) (w := 1) (jMF_I (a := 86) (w := 1) (F) (by decide) (by decide) (by omega) (by omega)) (by decide) (by decide) (by omega) (by omega)) g1) (jML_count x t1 m1 f1 b1 ?_ ?_ ?_ ?_ ?_)
  · exact g1.2.2.2 45 (by decide)
  · exact g1.1 86 0 (by decide)
  · exact g1.1 80 0 (by decide)
  · exact fun a b z11 z80 z86 => (g1.1 a b z11).trans ((if_neg (fun y => z80 y.1)).trans (if_neg (fun y => z86 y.1)))
  · exact fun a b z11 => g1.2.1 a b z11

set_option maxHeartbeats 800000 in
set_option maxRecDepth 100000 in
theorem eM_count_g1 {d : Nat} {h : jx_H} {Q : Option jx_V → jx_H → Prop} {h0 : jx_H} {B : Nat → Int32} {sz β t : Nat} {V : Nat → Nat → Nat} {W : Nat → Nat → List Nat} {D : Nat → Int32} (x : jML h B sz β t V W D) (F : jMF β h0 h) (hβ : β < 2) (k0 : jT_K B sz t = 100 + 23) (k : ∀ h', jMF β h0 h' → jML h' B sz β (t + 1) (jv2 (jv2 V 0 6 1) 0 10 1) W D → Q none h')  : jx_Ev jm_MD_readCount (d + 8) 0 0 false 1 [jv_r 11 0] h Q := by
  show jx_W (jm_MD_readCount, d + 8, 0, 0, false, 1, _) Q 0 0 0 [some (jv_r 11 0), none] [] _
  obtain ⟨⟨t0, m0, f0, b0, -, -, -, -⟩, -, -⟩ := id x
  refine jr_aload rfl rfl ?_
  refine jr_getR rfl rfl rfl rfl (Or.inl rfl) ?_
  refine jr_aload rfl rfl ?_
  refine jr_getI rfl rfl ?_
  refine jr_ic rfl ?_
  refine jr_zast (len := 2) rfl rfl b0 (by omega) ?_
  refine jr_aload rfl rfl ?_
  refine jr_lc rfl ?_
  refine jr_cv1 (mc' := 0) (ms' := 0) rfl jm_MD_isWord_n jm_MD_isWord_f rfl rfl rfl rfl rfl rfl rfl (Nat.zero_le _) (Nat.zero_le _) ?_
  refine eM_isWord (B := B) (sz := sz) (t := t) m0 (i := 22) (by decide) jT_W22 ?_
  refine jr_if_eq rfl (fun _ => ?_) (fun z => absurd (if_neg (by omega)) z)
  refine jr_aload rfl rfl ?_
  refine jr_lc rfl ?_
  refine jr_cv1 (mc' := 0) (ms' := 0) rfl jm_MD_isWord_n jm_MD_isWord_f rfl rfl rfl rfl rfl rfl rfl (Nat.zero_le _) (Nat.zero_le _) ?_
  refine eM_isWord (B := B) (sz := sz) (t := t) m0 (i := 23) (by decide) jT_W23 ?_
  refine jr_if_eq rfl (fun z => absurd z (by rw [if_pos k0]; decide)) (fun _ => ?_)
  refine jr_ic rfl ?_
  refine jr_goto rfl ?_
  refine jr_ist1 rfl rfl ?_
  refine jr_aload rfl rfl ?_
  refine jr_getR rfl rfl rfl rfl (Or.inl rfl) ?_
  refine jr_aload rfl rfl ?_
  refine jr_getI rfl rfl ?_
  refine jr_iload rfl rfl ?_
  refine jr_iast (len := 2) rfl rfl b0 (by omega) ?_
  refine jr_aload rfl rfl ?_
  refine jr_iload rfl rfl ?_
  refine jr_if_lt rfl (fun z => absurd z (by decide)) (fun _ => ?_)
  refine jr_ic rfl ?_
  refine jr_goto rfl ?_
  refine jr_cv1 (mc' := 0) (ms' := 0) rfl jm_MD_must_n jm_MD_must_f rfl rfl rfl rfl rfl rfl rfl (Nat.zero_le _) (Nat.zero_le _) ?_
  refine eM_must_y (B := B) (sz := sz) (t := t) t0 m0 f0 (by decide) (fun h1 g1 m1 => ?_)
  have t1 := jX_t_MG g1 t0
  have f1 : jh_I h1 11 0 4 = 0 := (g1.2.2.2 4 (by decide)).trans f0
  have b1 : jh_I h1 11 0 44 = nI β := (g1.2.2.2 44 (by decide)).trans b0
  refine jr_vret rfl rfl (Nat.zero_le _) (Nat.zero_le _) ?_
  refine k _ (jMF_G (jMF_I (a := 80) (w := 1) (jMF_I (a := 86) (w := 1) (F) (by decide) (by decide) (by omega) (by omega)) (by decide) (by decide) (by omega) (by omega)) g1) (jML_count x t1 m1 f1 b1 ?_ ?_ ?_ ?_ ?_)
  · exact g1.2.2.2 45 (by decide)
  · exact g1.1 86 0 (by decide)
  · exact g1.1 80 0 (by decide)
  · exact fun a b z11 z80 z86 => (g1.1 a b z11).trans ((if_neg (fun y => z80 y.1)).trans (if_neg (fun y => z86 y.1)))
  · exact fun a b z11 => g1.2.1 a b z11

set_option maxHeartbeats 800000 in
set_option maxRecDepth 100000 in
theorem eM_count_g2 {d : Nat} {h : jx_H} {Q : Option jx_V → jx_H → Prop} {h0 : jx_H} {B : Nat → Int32} {sz β t : Nat} {V : Nat → Nat → Nat} {W : Nat → Nat → List Nat} {D : Nat → Int32} (x : jML h B sz β t V W D) (F : jMF β h0 h) (hβ : β < 2) (k0 : jT_K B sz t = 100 + 24) (k : ∀ h', jMF β h0 h' → jML h' B sz β (t + 1) (jv2 (jv2 V 0 6 1) 0 10 2) W D → Q none h')  : jx_Ev jm_MD_readCount (d + 8) 0 0 false 1 [jv_r 11 0] h Q := by
  show jx_W (jm_MD_readCount, d + 8, 0, 0, false, 1, _) Q 0 0 0 [some (jv_r 11 0), none] [] _
  obtain ⟨⟨t0, m0, f0, b0, -, -, -, -⟩, -, -⟩ := id x
  refine jr_aload rfl rfl ?_
  refine jr_getR rfl rfl rfl rfl (Or.inl rfl) ?_
  refine jr_aload rfl rfl ?_
  refine jr_getI rfl rfl ?_
  refine jr_ic rfl ?_
  refine jr_zast (len := 2) rfl rfl b0 (by omega) ?_
  refine jr_aload rfl rfl ?_
  refine jr_lc rfl ?_
  refine jr_cv1 (mc' := 0) (ms' := 0) rfl jm_MD_isWord_n jm_MD_isWord_f rfl rfl rfl rfl rfl rfl rfl (Nat.zero_le _) (Nat.zero_le _) ?_
  refine eM_isWord (B := B) (sz := sz) (t := t) m0 (i := 22) (by decide) jT_W22 ?_
  refine jr_if_eq rfl (fun _ => ?_) (fun z => absurd (if_neg (by omega)) z)
  refine jr_aload rfl rfl ?_
  refine jr_lc rfl ?_
  refine jr_cv1 (mc' := 0) (ms' := 0) rfl jm_MD_isWord_n jm_MD_isWord_f rfl rfl rfl rfl rfl rfl rfl (Nat.zero_le _) (Nat.zero_le _) ?_
  refine eM_isWord (B := B) (sz := sz) (t := t) m0 (i := 23) (by decide) jT_W23 ?_
  refine jr_if_eq rfl (fun _ => ?_) (fun z => absurd (if_neg (by omega)) z)
  refine jr_aload rfl rfl ?_
  refine jr_lc rfl ?_
  refine jr_cv1 (mc' := 0) (ms' := 0) rfl jm_MD_isWord_n jm_MD_isWord_f rfl rfl rfl rfl rfl rfl rfl (Nat.zero_le _) (Nat.zero_le _) ?_
  refine eM_isWord (B := B) (sz := sz) (t := t) m0 (i := 24) (by decide) jT_W24 ?_
  refine jr_if_eq rfl (fun z => absurd z (by rw [if_pos k0]; decide)) (fun _ => ?_)
  refine jr_ic rfl ?_
  refine jr_goto rfl ?_
  refine jr_ist1 rfl rfl ?_
  refine jr_aload rfl rfl ?_
  refine jr_getR rfl rfl rfl rfl (Or.inl rfl) ?_
  refine jr_aload rfl rfl ?_
  refine jr_getI rfl rfl ?_
  refine jr_iload rfl rfl ?_
  refine jr_iast (len := 2) rfl rfl b0 (by omega) ?_
  refine jr_aload rfl rfl ?_
  refine jr_iload rfl rfl ?_
  refine jr_if_lt rfl (fun z => absurd z (by decide)) (fun _ => ?_)
  refine jr_ic rfl ?_
  refine jr_goto rfl ?_
  refine jr_cv1 (mc' := 0) (ms' := 0) rfl jm_MD_must_n jm_MD_must_f rfl rfl rfl rfl rfl rfl rfl (Nat.zero_le _) (Nat.zero_le _) ?_
  refine eM_must_y (B := B) (sz := sz) (t := t) t0 m0 f0 (by decide) (fun h1 g1 m1 => ?_)
  have t1 := jX_t_MG g1 t0
  have f1 : jh_I h1 11 0 4 = 0 := (g1.2.2.2 4 (by decide)).trans f0
  have b1 : jh_I h1 11 0 44 = nI β := (g1.2.2.2 44 (by decide)).trans b0
  refine jr_vret rfl rfl (Nat.zero_le _) (Nat.zero_le _) ?_
  refine k _ (jMF_G (jMF_I (a := 80) (w := 1) (jMF_I (a := 86) (w := 1) (F) (by decide) (by decide) (by omega) (by omega)) (by decide) (by decide) (by omega) (by omega)) g1) (jML_count x t1 m1 f1 b1 ?_ ?_ ?_ ?_ ?_)
  · exact g1.2.2.2 45 (by decide)
  · exact g1.1 86 0 (by decide)
  · exact g1.1 80 0 (by decide)
  · exact fun a b z11 z80 z86 => (g1.1 a b z11).trans ((if_neg (fun y => z80 y.1)).trans (if_neg (fun y => z86 y.1)))
  · exact fun a b z11 => g1.2.1 a b z11

theorem jLS_count {h0 h h5 : jx_H} {B : Nat → Int32} {sz T ρ t t' y : Nat} {V : Nat → Nat → Nat} {W : Nat → Nat → List Nat} {D : Nat → Int32} (x : jLS h0 (jgh h V) B sz T ρ t V W D) (xb : jh_I h 6 0 5 = nI (jbt V + 4)) (hs : V 0 6 = 0) (g : jCf (ju_I h 7 ρ (upd (jh_I h 7 ρ) 9 (nI (y + 122)))) h5) (z : jTS h5 B sz T (t + t')) (h1 : y ≤ 2) :
    jLS h0 h5 B sz T ρ (t + t') (jv2 (jv2 V 0 6 1) 0 10 y) W D := by
  obtain ⟨x1, ⟨⟨a1, a2⟩, ⟨b1, b2⟩, ⟨c1, c2⟩, e, f1, f2, f3, f4, f5, f6, f7, i1, i2, i3, i4⟩, x3, ⟨v1, v2, v3, v4, v5, v6, v7, v8, v9, v10, v11, v12, v13, v14, v15, v16, v17, v18, v19, v20, v21⟩, x5, x6⟩ := x
  have h7 : jh_I h5 7 ρ = upd (jh_I h 7 ρ) 9 (nI (y + 122)) := (g.1 7 ρ (by decide) (by decide)).trans (jg_II _ _ _ _)
  have f7' : ∀ q, q ≠ 9 → jh_I h5 7 ρ q = jh_I h 7 ρ q := fun q hq => by
    rw [h7, jg_un hq]
  have fa : ∀ a b, a ≠ 9 → a ≠ 6 → a ≠ 7 → jh_I h5 a b = jh_I h a b := fun a b z1 z2 z3 => (g.1 a b z1 z2).trans (if_neg (fun y => z3 y.1))
  have eL : ∀ a, a ≠ 9 → jh_L h5 a 0 = jh_L h a 0 := fun a z1 => g.2.1 a 0 z1
  refine ⟨z, ⟨⟨(f7' 0 (by decide)).trans a1, fun j hj => ?_⟩, ⟨(f7' 3 (by decide)).trans b1, fun p hp => ?_⟩, ⟨(f7' 5 (by decide)).trans c1, fun p hp => ?_⟩, fun w hw => ?_, (f7' 7 (by decide)).trans f1, (f7' 8 (by decide)).trans f2, ?_, (f7' 10 (by decide)).trans f4, (f7' 11 (by decide)).trans f5, (f7' 12 (by decide)).trans f6, (f7' 15 (by decide)).trans f7, ?_, ?_, fun q hq => ?_, ?_⟩,
    jCF_f (jCF_I (jCF_g x3) (by decide)) g, ⟨v1, v2, v3, v4, v5, v6, v7, v8, v9, v10, Nat.le_refl _, v12, h1, v14, v15, v16, v17, v18, v19, v20, v21⟩, ?_, x6⟩
  · rw [fa 21 ρ (by decide) (by decide) (by decide), fa 22 ρ (by decide) (by decide) (by decide), eL 28 (by decide)]
    exact a2 j hj
  · rw [fa 23 ρ (by decide) (by decide) (by decide), eL 29 (by decide)]
    exact b2 p hp
  · unfold jCd
    rw [fa 2 _ (by decide) (by decide) (by decide), eL 30 (by decide)]
    exact c2 p hp
  · rw [fa 26 ρ (by decide) (by decide) (by decide), fa 27 ρ (by decide) (by decide) (by decide)]
    exact e w hw
  · rw [h7, jg_us]
    rfl
  · refine (g.2.2.2.2 5 (by decide)).trans (xb.trans ?_)
    show nI (V 0 5 + 2 * V 12 5 + 4 * V 0 6 + 8 * V 0 7 + 4) = nI (V 0 5 + 2 * V 12 5 + 4 * 1 + 8 * V 0 7)
    rw [hs]
    exact congrArg nI (by omega)
  · rw [f7' 13 (by decide)]
    exact i2
  · rw [fa 25 ρ (by decide) (by decide) (by decide)]
    exact i3 q hq
  · rw [show jh_M h5 6 0 = jh_M h 6 0 from congrFun (congrFun (congrArg (·.1) g.2.2.1) 6) 0]
    exact i4
  · show 4 * V 0 4 ≤ 8 * V 0 3 + jT_p B sz (t + t')
    have := jT_p_mn (B := B) (sz := sz) (t := t) t'
    omega
set_option maxHeartbeats 800000 in
set_option maxRecDepth 100000 in
theorem ev_countL {d : Nat} {h : jx_H} {Q : Option jx_V → jx_H → Prop} {h0 : jx_H} {B : Nat → Int32} {sz T β ρ t : Nat} {V : Nat → Nat → Nat} {W : Nat → Nat → List Nat} {D : Nat → Int32} (x : jLS h0 (jgh h V) B sz T ρ t V W D) (xb : jh_I h 6 0 5 = nI (jbt V + 4)) (hs : V 0 6 = 0) (hβ : β < 2) (k : ∀ r h', jLO jm_MD_readCount 8 h0 B sz T β ρ t V W D r h' → Q r h')  : jx_Ev jm_Rdr_readCount (d + 8) 0 0 false 0 [jv_r 6 0] h Q := by
  show jx_W (jm_Rdr_readCount, d + 8, 0, 0, false, 0, _) Q 0 0 0 [some (jv_r 6 0)] [] _
  obtain ⟨xz0, xD, xF0, xV, x5, x6⟩ := id x
  have xz : jTS h B sz T t := xz0
  have xF := jCF_g xF0
  have hρ : jh_M h 6 0 4 = ρ + 1 := xD.2.2.2.2.2.2.2.2.2.2.2.2.2.2
  have hkl : jT_K B sz t < 256 := jT_k_lt
  have hk : jh_I h 9 0 8 = nI (jT_K B sz t) := xz.2.1.2.1
  refine jr_aload rfl rfl ?_
  refine jr_getR rfl rfl rfl rfl (Or.inl rfl) ?_
  refine jr_getI rfl rfl ?_
  refine jr_ic rfl ?_
  refine jr_icmp_eq rfl (fun c4 => ?_) (fun c4 => ?_)
  · have k0 : jT_K B sz t = 100 + 22 := jn_eq (hk.symm.trans c4) (by omega) (by decide)
    have hn1 := jT_next xz.1 xz.2.2 (show jT_K B sz t ≠ 0 by omega)
    refine jr_aload rfl rfl ?_
    refine jr_getM rfl rfl rfl rfl hρ ?_
    refine jr_aload rfl rfl ?_
    refine jr_getR rfl rfl rfl rfl (Or.inl rfl) ?_
    refine jr_getI rfl rfl ?_
    rw [show jh_I h 9 0 8 = nI (0 + 122) from c4]
    refine jr_putI rfl rfl ?_
    refine jr_aload rfl rfl ?_
    refine jr_getR rfl rfl rfl rfl (Or.inl rfl) ?_
    refine jr_cv0 (mc' := 0) (ms' := 0) rfl jm_Tape_take_n jm_Tape_take_f rfl rfl rfl rfl rfl rfl rfl (Nat.zero_le _) (Nat.zero_le _) ?_
    refine ev_take (B := B) (sz := sz) (T := T) (t := t + 1) (h := (ju_I h 7 ρ (upd (jh_I h 7 ρ) 9 (nI (0 + 122))))) xz.1 xz.2.1.1 hn1 (fun h1 g1 c1 => ?_)
    refine jr_ic rfl ?_
    refine jr_zret rfl rfl rfl (Nat.zero_le _) (Nat.zero_le _) ?_
    exact k _ _ (Or.inl ⟨rfl, t + 1, _, _, D, by show V 0 0 + V 0 1 + V 0 2 + V 0 5 + V 12 5 + 1 + V 0 7 = _; unfold jsm; omega, jLS_count (y := 0) x xb hs (jCf_G g1) (jTS_take (show jTS (ju_I h 7 ρ (upd (jh_I h 7 ρ) 9 (nI (0 + 122)))) B sz T t from xz) g1 c1 hn1) (by decide), fun d h0 hm Qm x F kq => eM_count_g0 x F hβ k0 kq⟩)
  · refine jr_aload rfl rfl ?_
    refine jr_getR rfl rfl rfl rfl (Or.inl rfl) ?_
    refine jr_getI rfl rfl ?_
    refine jr_ic rfl ?_
    refine jr_icmp_eq rfl (fun c9 => ?_) (fun c9 => ?_)
    · have k0 : jT_K B sz t = 100 + 23 := jn_eq (hk.symm.trans c9) (by omega) (by decide)
      have hn1 := jT_next xz.1 xz.2.2 (show jT_K B sz t ≠ 0 by omega)
      refine jr_aload rfl rfl ?_
      refine jr_getM rfl rfl rfl rfl hρ ?_
      refine jr_aload rfl rfl ?_
      refine jr_getR rfl rfl rfl rfl (Or.inl rfl) ?_
      refine jr_getI rfl rfl ?_
      rw [show jh_I h 9 0 8 = nI (1 + 122) from c9]
      refine jr_putI rfl rfl ?_
      refine jr_aload rfl rfl ?_
      refine jr_getR rfl rfl rfl rfl (Or.inl rfl) ?_
      refine jr_cv0 (mc' := 0) (ms' := 0) rfl jm_Tape_take_n jm_Tape_take_f rfl rfl rfl rfl rfl rfl rfl (Nat.zero_le _) (Nat.zero_le _) ?_
      refine ev_take (B := B) (sz := sz) (T := T) (t := t + 1) (h := (ju_I h 7 ρ (upd (jh_I h 7 ρ) 9 (nI (1 + 122))))) xz.1 xz.2.1.1 hn1 (fun h1 g1 c1 => ?_)
      refine jr_ic rfl ?_
      refine jr_zret rfl rfl rfl (Nat.zero_le _) (Nat.zero_le _) ?_
      exact k _ _ (Or.inl ⟨rfl, t + 1, _, _, D, by show V 0 0 + V 0 1 + V 0 2 + V 0 5 + V 12 5 + 1 + V 0 7 = _; unfold jsm; omega, jLS_count (y := 1) x xb hs (jCf_G g1) (jTS_take (show jTS (ju_I h 7 ρ (upd (jh_I h 7 ρ) 9 (nI (1 + 122)))) B sz T t from xz) g1 c1 hn1) (by decide), fun d h0 hm Qm x F kq => eM_count_g1 x F hβ k0 kq⟩)
    · refine jr_aload rfl rfl ?_
      refine jr_getR rfl rfl rfl rfl (Or.inl rfl) ?_
      refine jr_getI rfl rfl ?_
      refine jr_ic rfl ?_
      refine jr_icmp_eq rfl (fun c14 => ?_) (fun c14 => ?_)
      · have k0 : jT_K B sz t = 100 + 24 := jn_eq (hk.symm.trans c14) (by omega) (by decide)
        have hn1 := jT_next xz.1 xz.2.2 (show jT_K B sz t ≠ 0 by omega)
        refine jr_aload rfl rfl ?_
        refine jr_getM rfl rfl rfl rfl hρ ?_
        refine jr_aload rfl rfl ?_
        refine jr_getR rfl rfl rfl rfl (Or.inl rfl) ?_
        refine jr_getI rfl rfl ?_
        rw [show jh_I h 9 0 8 = nI (2 + 122) from c14]
        refine jr_putI rfl rfl ?_
        refine jr_aload rfl rfl ?_
        refine jr_getR rfl rfl rfl rfl (Or.inl rfl) ?_
        refine jr_cv0 (mc' := 0) (ms' := 0) rfl jm_Tape_take_n jm_Tape_take_f rfl rfl rfl rfl rfl rfl rfl (Nat.zero_le _) (Nat.zero_le _) ?_
        refine ev_take (B := B) (sz := sz) (T := T) (t := t + 1) (h := (ju_I h 7 ρ (upd (jh_I h 7 ρ) 9 (nI (2 + 122))))) xz.1 xz.2.1.1 hn1 (fun h1 g1 c1 => ?_)
        refine jr_ic rfl ?_
        refine jr_zret rfl rfl rfl (Nat.zero_le _) (Nat.zero_le _) ?_
        exact k _ _ (Or.inl ⟨rfl, t + 1, _, _, D, by show V 0 0 + V 0 1 + V 0 2 + V 0 5 + V 12 5 + 1 + V 0 7 = _; unfold jsm; omega, jLS_count (y := 2) x xb hs (jCf_G g1) (jTS_take (show jTS (ju_I h 7 ρ (upd (jh_I h 7 ρ) 9 (nI (2 + 122)))) B sz T t from xz) g1 c1 hn1) (by decide), fun d h0 hm Qm x F kq => eM_count_g2 x F hβ k0 kq⟩)
      · refine jr_aload rfl rfl ?_
        refine jr_ic rfl ?_
        refine jr_cv1 (mc' := 0) (ms' := 0) rfl jm_Rdr_refuse_n jm_Rdr_refuse_f rfl rfl rfl rfl rfl rfl rfl (Nat.zero_le _) (Nat.zero_le _) ?_
        refine ev_refuse (B := B) (sz := sz) (t := t) xz.2.1 (fun h1 g1 => ?_)
        refine jr_zret rfl rfl rfl (Nat.zero_le _) (Nat.zero_le _) ?_
        have n0 : ¬ jT_K B sz t = 122 := fun y => c4 (hk.trans (congrArg nI y))
        have n1 : ¬ jT_K B sz t = 123 := fun y => c9 (hk.trans (congrArg nI y))
        have n2 : ¬ jT_K B sz t = 124 := fun y => c14 (hk.trans (congrArg nI y))
        exact k _ _ (Or.inr ⟨rfl, _, _, jCF_f xF (jCf_ft g1), g1.2.2.2.1, g1.2.2.2.2, ⟨by first | exact jX_kd_n _ | decide, jT_p_le⟩, fun d h0 hm Qm x F kq => eM_count_b x F hβ (by omega) kq⟩)

