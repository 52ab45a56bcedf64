set_option maxHeartbeats 800000 in
set_option maxRecDepth 100000 in
theorem eM_signF {d : Nat} {h : jx_H} {Q : Option jx_V → jx_H → Prop} {s : Int32} {pl sz : Nat} (hp : jh_I h 11 0 6 = nI pl) (hs : jh_I h 11 0 3 = nI sz) (hsz : sz ≤ 1700) (hpl : pl ≤ sz) (k : ∀ x, Q (some (jv_i x)) h)  : jx_Ev jm_MD_isSignHere (d + 2) 0 0 false 1 [jv_r 11 0, jv_i s] h Q := by
  show jx_W (jm_MD_isSignHere, d + 2, 0, 0, false, 1, _) Q 0 0 0 [some (jv_r 11 0), some (jv_i s)] [] _
  refine jr_aload rfl rfl ?_
  refine jr_getI rfl rfl ?_
  refine jr_ic rfl ?_
  refine jr_icmp_ne rfl (fun c3 => ?_) (fun c3 => ?_)
  · refine jr_ic rfl ?_
    refine jr_zret rfl rfl rfl (Nat.zero_le _) (Nat.zero_le _) ?_
    exact k _
  · refine jr_aload rfl rfl ?_
    refine jr_aload rfl rfl ?_
    refine jr_getI rfl rfl ?_
    rw [hp]
    refine jr_cv1 (mc' := 0) (ms' := 0) rfl jm_MD_sign_n jm_MD_sign_f rfl rfl rfl rfl rfl rfl rfl (Nat.zero_le _) (Nat.zero_le _) ?_
    show jx_W (jm_MD_sign, _, _, _, _, _, _) _ 0 0 0 [some _, some _] [] _
    refine jr_iload rfl rfl ?_
    refine jr_aload rfl rfl ?_
    refine jr_getI rfl rfl ?_
    rw [hs]
    refine jr_icmp_ge rfl (fun c3MDsign => ?_) (fun c3MDsign => ?_)
    · refine jr_ic rfl ?_
      refine jr_iret rfl rfl (Nat.zero_le _) (Nat.zero_le _) ?_
      refine jr_iload rfl rfl ?_
      refine jr_icmp_ne rfl (fun c9 => ?_) (fun c9 => ?_)
      · refine jr_ic rfl ?_
        refine jr_zret rfl rfl rfl (Nat.zero_le _) (Nat.zero_le _) ?_
        exact k _
      · refine jr_ic rfl ?_
        refine jr_goto rfl ?_
        refine jr_zret rfl rfl rfl (Nat.zero_le _) (Nat.zero_le _) ?_
        exact k _
    · refine jr_aload rfl rfl ?_
      refine jr_getR rfl rfl rfl rfl (Or.inl rfl) ?_
      refine jr_iload rfl rfl ?_
      refine jr_bald (len := 1700) rfl rfl rfl (by have := jn_nle (show ¬ nI sz ≤ nI pl from c3MDsign) (by omega) (by omega); omega) ?_
      refine jr_ic rfl ?_
      refine jr_iand rfl ?_
      refine jr_goto rfl ?_
      refine jr_iret rfl rfl (Nat.zero_le _) (Nat.zero_le _) ?_
      refine jr_iload rfl rfl ?_
      refine jr_icmp_ne rfl (fun c9 => ?_) (fun c9 => ?_)
      · refine jr_ic rfl ?_
        refine jr_zret rfl rfl rfl (Nat.zero_le _) (Nat.zero_le _) ?_
        exact k _
      · refine jr_ic rfl ?_
        refine jr_goto rfl ?_
        refine jr_zret rfl rfl rfl (Nat.zero_le _) (Nat.zero_le _) ?_
        exact k _

theorem jML_G {h h' : jx_H} {B : Nat → Int32} {sz β t t' : Nat} {V : Nat → Nat → Nat} {W : Nat → Nat → List Nat} {D : Nat → Int32} (x : jML h B sz β t V W D) (g : jT_MG h h') (m : jT_mc h' B sz t') : jML h' B sz β t' V W D := by
  obtain ⟨⟨q1, q2, q3, q4, y69, y45, -, -⟩, ⟨⟨a1, a2⟩, ⟨b1, b2⟩, ⟨c1, c2⟩, r, ⟨s1, s2⟩, s3, s4, s5, s6, s7⟩, d⟩ := x
  have f : ∀ a, a ≠ 11 → jh_I h' a 0 = jh_I h a 0 := fun a => g.1 a 0
  have l : ∀ a, a ≠ 11 → jh_L h' a 0 = jh_L h a 0 := fun a => g.2.1 a 0
  refine ⟨⟨jX_t_MG g q1, m, (g.2.2.2 4 (by decide)).trans q3, (g.2.2.2 44 (by decide)).trans q4, by rw [f 69 (by decide)]; exact y69, (g.2.2.2 45 (by decide)).trans y45, rfl, rfl⟩, ⟨⟨by rw [f 66 (by decide)]; exact a1, fun j hj => by rw [f 70 (by decide), f 71 (by decide), l 90 (by decide)]; exact a2 j hj⟩, ⟨by rw [f 67 (by decide)]; exact b1, fun p hp => by rw [f 72 (by decide), l 91 (by decide)]; exact b2 p hp⟩,
    ⟨by rw [f 68 (by decide)]; exact c1, fun p hp => ⟨?_, by rw [l 92 (by decide)]; exact (c2 p hp).2⟩⟩, fun w hw => jMr_s (r w hw) (f 82 (by decide)) (f 83 (by decide)) (f 89 (by decide)) (f 93 (by decide)),
    ⟨by rw [f 85 (by decide)]; exact s1, fun q => by rw [f 78 (by decide), f 79 (by decide)]; exact s2 q⟩, by rw [f 86 (by decide)]; exact s3, by rw [f 80 (by decide)]; exact s4, by rw [f 87 (by decide)]; exact s5, by rw [f 81 (by decide)]; exact s6, by rw [f 88 (by decide)]; exact s7⟩, by rw [f 93 (by decide), f 94 (by decide)]; exact d⟩
  unfold jMd
  rw [f 73 (by decide), f 74 (by decide), f 75 (by decide), f 76 (by decide), f 77 (by decide), f 84 (by decide)]
  exact (c2 p hp).1
set_option maxHeartbeats 800000 in
set_option maxRecDepth 100000 in
theorem eM_tail_y {d n0 : Nat} {Q : Option jx_V → jx_H → Prop} {h0 h : jx_H} {B : Nat → Int32} {sz β t : Nat} {what : Int64} {V : Nat → Nat → Nat} {W : Nat → Nat → List Nat} {D : Nat → Int32} (x : jML h B sz β t V W D) (F : jMF β h0 h) (hK : jT_K B sz t = 59) (k : ∀ h', jMF β h0 h' → jML h' B sz β (t + 1) V W D → Q none h')  : jx_W (jm_MD_readLine, d + 20, 0, 0, false, 1, n0) Q 0 0 82 [some (jv_r 11 0), some (jv_l what), none] [] h := by
  obtain ⟨⟨t0, m0, f0, b0, -, -, -, -⟩, -, -⟩ := id x
  refine jr_aload rfl rfl ?_
  refine jr_aload rfl rfl ?_
  refine jr_ic rfl ?_
  refine jr_cv1 (mc' := 0) (ms' := 0) rfl jm_MD_isSignHere_n jm_MD_isSignHere_f rfl rfl rfl rfl rfl rfl rfl (Nat.zero_le _) (Nat.zero_le _) ?_
  refine eM_isSignHere (B := B) (sz := sz) (t := t) (s := 59) t0 m0 (by decide) ?_
  refine jr_cv1 (mc' := 0) (ms' := 0) rfl jm_MD_must_n jm_MD_must_f rfl rfl rfl rfl rfl rfl rfl (Nat.zero_le _) (Nat.zero_le _) ?_
  refine eM_must_y (B := B) (sz := sz) (t := t) t0 m0 f0 (by rw [if_pos hK]; decide) (fun h1 g1 m1 => ?_)
  refine jr_vret rfl rfl (Nat.zero_le _) (Nat.zero_le _) ?_
  exact k h1 (jMF_G F g1) (jML_G x g1 m1)

set_option maxHeartbeats 800000 in
set_option maxRecDepth 100000 in
theorem eM_tail_n {d n0 : Nat} {Q : Option jx_V → jx_H → Prop} {h0 h : jx_H} {B : Nat → Int32} {sz β t : Nat} {what : Int64} {V : Nat → Nat → Nat} {W : Nat → Nat → List Nat} {D : Nat → Int32} (x : jML h B sz β t V W D) (F : jMF β h0 h) (hK : ¬ jT_K B sz t = 59) (k : ∀ h', jMF β h0 h' → jh_I h' 11 0 4 = jX_kd (jT_K B sz t) → jPl h' (jT_p B sz t) → Q none h')  : jx_W (jm_MD_readLine, d + 20, 0, 0, false, 1, n0) Q 0 0 82 [some (jv_r 11 0), some (jv_l what), none] [] h := by
  obtain ⟨⟨t0, m0, f0, b0, -, -, -, -⟩, -, -⟩ := id x
  refine jr_aload rfl rfl ?_
  refine jr_aload rfl rfl ?_
  refine jr_ic rfl ?_
  refine jr_cv1 (mc' := 0) (ms' := 0) rfl jm_MD_isSignHere_n jm_MD_isSignHere_f rfl rfl rfl rfl rfl rfl rfl (Nat.zero_le _) (Nat.zero_le _) ?_
  refine eM_isSignHere (B := B) (sz := sz) (t := t) (s := 59) t0 m0 (by decide) ?_
  refine jr_cv1 (mc' := 0) (ms' := 0) rfl jm_MD_must_n jm_MD_must_f rfl rfl rfl rfl rfl rfl rfl (Nat.zero_le _) (Nat.zero_le _) ?_
  refine eM_must_n (B := B) (sz := sz) (t := t) t0 m0 f0 (if_neg hK) (fun h1 g1 => ?_)
  refine jr_vret rfl rfl (Nat.zero_le _) (Nat.zero_le _) ?_
  exact k h1 (jMF_ft F g1) g1.2.2.2.1 g1.2.2.2.2

set_option maxHeartbeats 800000 in
set_option maxRecDepth 100000 in
theorem eM_tail_b {d n0 : Nat} {Q : Option jx_V → jx_H → Prop} {h : jx_H} {sz pl : Nat} {what : Int64} (hb : ¬ jh_I h 11 0 4 = 0) (hp : jPl h pl) (hs : jh_I h 11 0 3 = nI sz) (hsz : sz ≤ 1700) (hpl : pl ≤ sz) (k : Q none h)  : jx_W (jm_MD_readLine, d + 20, 0, 0, false, 1, n0) Q 0 0 82 [some (jv_r 11 0), some (jv_l what), none] [] h := by
  refine jr_aload rfl rfl ?_
  refine jr_aload rfl rfl ?_
  refine jr_ic rfl ?_
  refine jr_cv1 (mc' := 0) (ms' := 0) rfl jm_MD_isSignHere_n jm_MD_isSignHere_f rfl rfl rfl rfl rfl rfl rfl (Nat.zero_le _) (Nat.zero_le _) ?_
  refine eM_signF hp.2 hs hsz hpl (fun y => ?_)
  refine jr_cv1 (mc' := 0) (ms' := 0) rfl jm_MD_must_n jm_MD_must_f rfl rfl rfl rfl rfl rfl rfl (Nat.zero_le _) (Nat.zero_le _) ?_
  refine eM_must_b hb ?_
  refine jr_vret rfl rfl (Nat.zero_le _) (Nat.zero_le _) ?_
  exact k

