def jbt (V : Nat → Nat → Nat) : Nat := V 0 5 + 2 * V 12 5 + 4 * V 0 6 + 8 * V 0 7
/-- the bits told but for the newest line's -/
def jgh (h : jx_H) (V : Nat → Nat → Nat) : jx_H := ju_I h 6 0 (upd (jh_I h 6 0) 5 (nI (jbt V)))
theorem jCF_g {ρ : Nat} {h0 h : jx_H} {V : Nat → Nat → Nat} (f : jCF ρ h0 (jgh h V)) : jCF ρ h0 h := ⟨fun a b z1 z2 z3 z4 => (if_neg (fun y => z2 y.1) : jh_I (jgh h V) a b = _).symm.trans (f.1 a b z1 z2 z3 z4), f.2.1, f.2.2.1, f.2.2.2⟩
def jFs (h : jx_H) (ρ su sl : Nat) : jx_H := ju_I (ju_I h 7 ρ (upd (jh_I h 7 ρ) 7 (nI su))) 7 ρ (upd (jh_I (ju_I h 7 ρ (upd (jh_I h 7 ρ) 7 (nI su))) 7 ρ) 8 (nI sl))
theorem jFs_7 (h : jx_H) (ρ su sl : Nat) : jh_I (jFs h ρ su sl) 7 ρ = upd (upd (jh_I h 7 ρ) 7 (nI su)) 8 (nI sl) := by
  unfold jFs
  rw [jg_II, jg_II]
theorem jLS_sun {h0 h h5 : jx_H} {B : Nat → Int32} {sz T ρ t t' su sl : Nat} {V : Nat → Nat → Nat} {W : Nat → Nat → List Nat} {D : Nat → Int32} (x : jLS h0 (jgh h V) B sz T ρ t V W D) (xb : jh_I h 6 0 5 = nI (jbt V + 1)) (hs : V 0 5 = 0) (g : jCf h h5) (z : jTS h5 B sz T (t + t')) (h1 : su ≤ 18512) (h2 : 1 ≤ sl) (h3 : sl ≤ 99) :
    jLS h0 (jFs h5 ρ su sl) B sz T ρ (t + t') (jv2 (jv2 (jv2 V 0 5 1) 0 8 su) 0 9 sl) W D := by
  obtain ⟨x1, ⟨⟨a1, a2⟩, ⟨b1, b2⟩, ⟨c1, c2⟩, e, f1, f2, f3, f4, f5, f6, f7, i1, i2, i3, i4⟩, x3, ⟨v1, v2, v3, v4, v5, v6, v7, v8, v9, v10, v11, v12, v13, v14, v15, v16, v17, v18, v19, v20, v21⟩, x5, x6⟩ := x
  have f7' : ∀ q, q ≠ 7 → q ≠ 8 → jh_I (jFs h5 ρ su sl) 7 ρ q = jh_I h 7 ρ q := fun q hq hq2 => by
    rw [jFs_7, jg_un hq2, jg_un hq, g.1 7 ρ (by decide) (by decide)]
  have fa : ∀ a b, a ≠ 9 → a ≠ 6 → a ≠ 7 → jh_I (jFs h5 ρ su sl) a b = jh_I h a b := fun a b z1 z2 z3 => (if_neg (fun y => z3 y.1)).trans ((if_neg (fun y => z3 y.1)).trans (g.1 a b z1 z2))
  have eL : ∀ a, a ≠ 9 → jh_L (jFs h5 ρ su sl) a 0 = jh_L h a 0 := fun a z1 => g.2.1 a 0 z1
  refine ⟨z, ⟨⟨(f7' 0 (by decide) (by decide)).trans a1, fun j hj => ?_⟩, ⟨(f7' 3 (by decide) (by decide)).trans b1, fun p hp => ?_⟩, ⟨(f7' 5 (by decide) (by decide)).trans c1, fun p hp => ?_⟩, fun w hw => ?_, ?_, ?_, (f7' 9 (by decide) (by decide)).trans f3, (f7' 10 (by decide) (by decide)).trans f4, (f7' 11 (by decide) (by decide)).trans f5, (f7' 12 (by decide) (by decide)).trans f6, (f7' 15 (by decide) (by decide)).trans f7, ?_, ?_, fun q hq => ?_, ?_⟩,
    jCF_I (jCF_I (jCF_f (jCF_g x3) g) (by decide)) (by decide), ⟨v1, v2, v3, v4, v5, v6, v7, Nat.le_refl _, fun _ => ⟨h1, h2, h3⟩, fun y => ?_, v11, v12, v13, v14, v15, v16, v17, v18, v19, v20, v21⟩, ?_, x6⟩
  · rw [fa 21 ρ (by decide) (by decide) (by decide), fa 22 ρ (by decide) (by decide) (by decide), eL 28 (by decide)]
    exact a2 j hj
  · rw [fa 23 ρ (by decide) (by decide) (by decide), eL 29 (by decide)]
    exact b2 p hp
  · unfold jCd
    rw [fa 2 _ (by decide) (by decide) (by decide), eL 30 (by decide)]
    exact c2 p hp
  · rw [fa 26 ρ (by decide) (by decide) (by decide), fa 27 ρ (by decide) (by decide) (by decide)]
    exact e w hw
  · rw [jFs_7, jg_un (by decide), jg_us]
    rfl
  · rw [jFs_7, jg_us]
    rfl
  · refine (g.2.2.2.2 5 (by decide)).trans (xb.trans ?_)
    show nI (V 0 5 + 2 * V 12 5 + 4 * V 0 6 + 8 * V 0 7 + 1) = nI (1 + 2 * V 12 5 + 4 * V 0 6 + 8 * V 0 7)
    rw [hs]
    exact congrArg nI (by omega)
  · rw [f7' 13 (by decide) (by decide)]
    exact i2
  · rw [fa 25 ρ (by decide) (by decide) (by decide)]
    exact i3 q hq
  · rw [show jh_M (jFs h5 ρ su sl) 6 0 = jh_M h 6 0 from congrFun (congrFun (congrArg (·.1) g.2.2.1) 6) 0]
    exact i4
  · exact absurd (show (1 : Nat) = 0 from y) (by decide)
  · show 4 * V 0 4 ≤ 8 * V 0 3 + jT_p B sz (t + t')
    have := jT_p_mn (B := B) (sz := sz) (t := t) t'
    omega
theorem eM_sun_b78 {d : Nat} {h : jx_H} {Q : Option jx_V → jx_H → Prop} {h0 : jx_H} {B : Nat → Int32} {sz β t : Nat} {V : Nat → Nat → Nat} {W : Nat → Nat → List Nat} {D : Nat → Int32} (x : jML h B sz β t V W D) (F : jMF β h0 h) (hβ : β < 2) (k0 : jT_K B sz t = 2) (r0 : jT_v B sz (jT_p B sz t) ≤ 186) (k1 : jT_K B sz (t + 1) = 119) (k2 : jT_K B sz (t + 2) = 2) (r2 : jT_v B sz (jT_p B sz (t + 2)) ≤ 99) (k3 : jT_K B sz (t + 3) = 116) (k4 : jT_K B sz (t + 4) = 2) (r4 : jT_v B sz (jT_p B sz (t + 4)) < jT_v B sz (jT_p B sz (t + 2)) + 1 ∨ 99 < jT_v B sz (jT_p B sz (t + 4))) (k : ∀ h', jMF β h0 h' → jh_I h' 11 0 4 = 4 → jPl h' (jT_p B sz (t + 4)) → Q none h') : jx_Ev jm_MD_readSun (d + 8) 0 0 false 1 [jv_r 11 0] h Q := by
  by_cases c : 0 < jT_v B sz (jT_p B sz (t + 4)) ∧ jT_v B sz (jT_p B sz (t + 4)) ≤ jT_v B sz (jT_p B sz (t + 2))
  · exact eM_sun_b7 x F hβ k0 r0 k1 k2 r2 k3 k4 c k
  · exact eM_sun_b8 x F hβ k0 r0 k1 k2 r2 k3 k4 (by omega) (by omega) k
set_option maxHeartbeats 800000 in
set_option maxRecDepth 100000 in
theorem ev_sun {d : Nat} {h : jx_H} {Q : Option jx_V → jx_H → Prop} {h0 : jx_H} {B : Nat → Int32} {sz T β ρ t : Nat} {V : Nat → Nat → Nat} {W : Nat → Nat → List Nat} {D : Nat → Int32} (x : jLS h0 (jgh h V) B sz T ρ t V W D) (xb : jh_I h 6 0 5 = nI (jbt V + 1)) (hs : V 0 5 = 0) (hβ : β < 2) (k : ∀ r h', jLO jm_MD_readSun 8 h0 B sz T β ρ t V W D r h' → Q r h')  : jx_Ev jm_Rdr_readSun (d + 8) 0 0 false 0 [jv_r 6 0] h Q := by
  show jx_W (jm_Rdr_readSun, d + 8, 0, 0, false, 0, _) Q 0 0 0 [some (jv_r 6 0), none, none] [] _
  obtain ⟨xz0, xD, xF0, xV, x5, x6⟩ := id x
  have xz : jTS h B sz T t := xz0
  have xF := jCF_g xF0
  have hρ : jh_M h 6 0 4 = ρ + 1 := xD.2.2.2.2.2.2.2.2.2.2.2.2.2.2
  refine jr_aload rfl rfl ?_
  refine jr_ic rfl ?_
  refine jr_ic rfl ?_
  refine jr_cv2 (mc' := 0) (ms' := 0) rfl jm_Rdr_wantNumber_n jm_Rdr_wantNumber_f rfl rfl rfl rfl rfl rfl rfl (Nat.zero_le _) (Nat.zero_le _) ?_
  refine ev_wantN (lo := 0) (hi := 186) xz (by decide) (by decide) (fun k0 r0 r0b h1 g1 z1 w1 => ?_) (fun k0 h9 r1 v1 v2 => ?_) (fun k0 r0 h9 r1 v1 v2 => ?_)
  · refine jr_if_ne rfl (fun _ => ?_) (fun z => absurd z (by decide))
    refine jr_aload rfl rfl ?_
    refine jr_getI rfl rfl ?_
    rw [show jh_I h1 6 0 7 = nI (jT_v B sz (jT_p B sz t)) from w1]
    refine jr_ist1 rfl rfl ?_
    refine jr_aload rfl rfl ?_
    refine jr_ic rfl ?_
    refine jr_cv1 (mc' := 0) (ms' := 0) rfl jm_Rdr_want_n jm_Rdr_want_f rfl rfl rfl rfl rfl rfl rfl (Nat.zero_le _) (Nat.zero_le _) ?_
    refine ev_want (w := 119) (t := t + 1) (show jTS h1 B sz T (t + 1) from z1) (by decide) (by decide) (fun k1 h2 g2 z2 => ?_) (fun k1 h9 r1 v1 v2 => ?_)
    · refine jr_if_eq rfl (fun z => absurd z (by decide)) (fun _ => ?_)
      refine jr_aload rfl rfl ?_
      refine jr_ic rfl ?_
      refine jr_ic rfl ?_
      refine jr_cv2 (mc' := 0) (ms' := 0) rfl jm_Rdr_wantNumber_n jm_Rdr_wantNumber_f rfl rfl rfl rfl rfl rfl rfl (Nat.zero_le _) (Nat.zero_le _) ?_
      refine ev_wantN (lo := 0) (hi := 99) (t := t + 2) (show jTS h2 B sz T (t + 2) from z2) (by decide) (by decide) (fun k2 r2 r2b h3 g3 z3 w3 => ?_) (fun k2 h9 r1 v1 v2 => ?_) (fun k2 r2 h9 r1 v1 v2 => ?_)
      · refine jr_if_ne rfl (fun _ => ?_) (fun z => absurd z (by decide))
        refine jr_aload rfl rfl ?_
        refine jr_getI rfl rfl ?_
        rw [show jh_I h3 6 0 7 = nI (jT_v B sz (jT_p B sz (t + 2))) from w3]
        refine jr_ist2 rfl rfl ?_
        refine jr_aload rfl rfl ?_
        refine jr_ic rfl ?_
        refine jr_cv1 (mc' := 0) (ms' := 0) rfl jm_Rdr_want_n jm_Rdr_want_f rfl rfl rfl rfl rfl rfl rfl (Nat.zero_le _) (Nat.zero_le _) ?_
        refine ev_want (w := 116) (t := t + 3) (show jTS h3 B sz T (t + 3) from z3) (by decide) (by decide) (fun k3 h4 g4 z4 => ?_) (fun k3 h9 r1 v1 v2 => ?_)
        · refine jr_if_eq rfl (fun z => absurd z (by decide)) (fun _ => ?_)
          refine jr_aload rfl rfl ?_
          refine jr_iload rfl rfl ?_
          refine jr_ic rfl ?_
          refine jr_iadd rfl ?_
          refine jr_ic rfl ?_
          rw [jn_S]
          refine jr_cv2 (mc' := 0) (ms' := 0) rfl jm_Rdr_wantNumber_n jm_Rdr_wantNumber_f rfl rfl rfl rfl rfl rfl rfl (Nat.zero_le _) (Nat.zero_le _) ?_
          refine ev_wantN (lo := jT_v B sz (jT_p B sz (t + 2)) + 1) (hi := 99) (t := t + 4) (show jTS h4 B sz T (t + 4) from z4) (by omega) (by decide) (fun k4 r4 r4b h5 g5 z5 w5 => ?_) (fun k4 h9 r1 v1 v2 => ?_) (fun k4 r4 h9 r1 v1 v2 => ?_)
          · refine jr_if_ne rfl (fun _ => ?_) (fun z => absurd z (by decide))
            refine jr_aload rfl rfl ?_
            refine jr_getM rfl rfl rfl rfl (show jh_M h5 6 0 4 = ρ + 1 from (congrFun (congrFun (congrFun (congrArg (·.1) (jCf_t g1 (jCf_t g2 (jCf_t g3 (jCf_t g4 g5)))).2.2.1) 6) 0) 4).trans hρ) ?_
            refine jr_iload rfl rfl ?_
            refine jr_iload rfl rfl ?_
            refine jr_aload rfl rfl ?_
            refine jr_getI rfl rfl ?_
            rw [show jh_I h5 6 0 7 = nI (jT_v B sz (jT_p B sz (t + 4))) from w5]
            refine jr_cv3 (mc' := 0) (ms' := 0) rfl jm_Rep_setSun_n jm_Rep_setSun_f rfl rfl rfl rfl rfl rfl rfl (Nat.zero_le _) (Nat.zero_le _) ?_
            show jx_W (jm_Rep_setSun, _, _, _, _, _, _) _ 0 0 0 [some _, some _, some _, some _] [] _
            refine jr_aload rfl rfl ?_
            refine jr_iload rfl rfl ?_
            refine jr_iload rfl rfl ?_
            refine jr_imul rfl ?_
            refine jr_iload rfl rfl ?_
            refine jr_iadd rfl ?_
            rw [show nI (jT_v B sz (jT_p B sz t)) * nI (jT_v B sz (jT_p B sz (t + 4))) + nI (jT_v B sz (jT_p B sz (t + 2))) = nI ((jT_v B sz (jT_p B sz t)) * (jT_v B sz (jT_p B sz (t + 4))) + (jT_v B sz (jT_p B sz (t + 2)))) from jn_add (jn_mul rfl rfl) rfl]
            refine jr_putI rfl rfl ?_
            refine jr_aload rfl rfl ?_
            refine jr_iload rfl rfl ?_
            refine jr_putI rfl rfl ?_
            refine jr_vret rfl rfl (Nat.zero_le _) (Nat.zero_le _) ?_
            refine jr_ic rfl ?_
            refine jr_zret rfl rfl rfl (Nat.zero_le _) (Nat.zero_le _) ?_
            have hm : (jT_v B sz (jT_p B sz t)) * (jT_v B sz (jT_p B sz (t + 4))) ≤ 186 * 99 := Nat.mul_le_mul r0b r4b
            have GG := jCf_t g1 (jCf_t g2 (jCf_t g3 (jCf_t g4 g5)))
            exact k _ _ (Or.inl ⟨rfl, t + 5, _, _, D, by show V 0 0 + V 0 1 + V 0 2 + 1 + V 12 5 + V 0 6 + V 0 7 = _; unfold jsm; omega, jLS_sun (su := (jT_v B sz (jT_p B sz t)) * (jT_v B sz (jT_p B sz (t + 4))) + (jT_v B sz (jT_p B sz (t + 2)))) (sl := (jT_v B sz (jT_p B sz (t + 4)))) x xb hs GG (show jTS h5 B sz T (t + 5) from z5) (by omega) (by omega) r4b, fun d h0 hm Qm x F kq => eM_sun_g x F hβ k0 r0b k1 k2 r2b k3 k4 (Or.inl (by omega)) ⟨by omega, r4b⟩ kq⟩)
          · refine jr_if_ne rfl (fun z => absurd (by decide) z) (fun _ => ?_)
            refine jr_ic rfl ?_
            refine jr_zret rfl rfl rfl (Nat.zero_le _) (Nat.zero_le _) ?_
            exact k _ _ (Or.inr ⟨rfl, _, _, jCF_f (jCF_f (jCF_f (jCF_f (jCF_f (xF) g1) g2) g3) g4) r1, v1, v2, ⟨by first | exact jX_kd_n _ | decide, jT_p_le⟩, fun d h0 hm Qm x F kq => eM_sun_b6 x F hβ k0 r0b k1 k2 r2b k3 k4 kq⟩)
          · refine jr_if_ne rfl (fun z => absurd (by decide) z) (fun _ => ?_)
            refine jr_ic rfl ?_
            refine jr_zret rfl rfl rfl (Nat.zero_le _) (Nat.zero_le _) ?_
            exact k _ _ (Or.inr ⟨rfl, _, _, jCF_f (jCF_f (jCF_f (jCF_f (jCF_f (xF) g1) g2) g3) g4) r1, v1, v2, ⟨by first | exact jX_kd_n _ | decide, jT_p_le⟩, fun d h0 hm Qm x F kq => eM_sun_b78 x F hβ k0 r0b k1 k2 r2b k3 k4 r4 kq⟩)
        · refine jr_if_eq rfl (fun _ => ?_) (fun z => absurd (by decide) z)
          refine jr_ic rfl ?_
          refine jr_zret rfl rfl rfl (Nat.zero_le _) (Nat.zero_le _) ?_
          exact k _ _ (Or.inr ⟨rfl, _, _, jCF_f (jCF_f (jCF_f (jCF_f (xF) g1) g2) g3) r1, v1, v2, ⟨by first | exact jX_kd_n _ | decide, jT_p_le⟩, fun d h0 hm Qm x F kq => eM_sun_b5 x F hβ k0 r0b k1 k2 r2b k3 kq⟩)
      · refine jr_if_ne rfl (fun z => absurd (by decide) z) (fun _ => ?_)
        refine jr_ic rfl ?_
        refine jr_zret rfl rfl rfl (Nat.zero_le _) (Nat.zero_le _) ?_
        exact k _ _ (Or.inr ⟨rfl, _, _, jCF_f (jCF_f (jCF_f (xF) g1) g2) r1, v1, v2, ⟨by first | exact jX_kd_n _ | decide, jT_p_le⟩, fun d h0 hm Qm x F kq => eM_sun_b3 x F hβ k0 r0b k1 k2 kq⟩)
      · refine jr_if_ne rfl (fun z => absurd (by decide) z) (fun _ => ?_)
        refine jr_ic rfl ?_
        refine jr_zret rfl rfl rfl (Nat.zero_le _) (Nat.zero_le _) ?_
        exact k _ _ (Or.inr ⟨rfl, _, _, jCF_f (jCF_f (jCF_f (xF) g1) g2) r1, v1, v2, ⟨by first | exact jX_kd_n _ | decide, jT_p_le⟩, fun d h0 hm Qm x F kq => eM_sun_b4 x F hβ k0 r0b k1 k2 r2 kq⟩)
    · refine jr_if_eq rfl (fun _ => ?_) (fun z => absurd (by decide) z)
      refine jr_ic rfl ?_
      refine jr_zret rfl rfl rfl (Nat.zero_le _) (Nat.zero_le _) ?_
      exact k _ _ (Or.inr ⟨rfl, _, _, jCF_f (jCF_f (xF) g1) r1, v1, v2, ⟨by first | exact jX_kd_n _ | decide, jT_p_le⟩, fun d h0 hm Qm x F kq => eM_sun_b2 x F hβ k0 r0b k1 kq⟩)
  · refine jr_if_ne rfl (fun z => absurd (by decide) z) (fun _ => ?_)
    refine jr_ic rfl ?_
    refine jr_zret rfl rfl rfl (Nat.zero_le _) (Nat.zero_le _) ?_
    exact k _ _ (Or.inr ⟨rfl, _, _, jCF_f (xF) r1, v1, v2, ⟨by first | exact jX_kd_n _ | decide, jT_p_le⟩, fun d h0 hm Qm x F kq => eM_sun_b0 x F hβ k0 kq⟩)
  · refine jr_if_ne rfl (fun z => absurd (by decide) z) (fun _ => ?_)
    refine jr_ic rfl ?_
    refine jr_zret rfl rfl rfl (Nat.zero_le _) (Nat.zero_le _) ?_
    exact k _ _ (Or.inr ⟨rfl, _, _, jCF_f (xF) r1, v1, v2, ⟨by first | exact jX_kd_n _ | decide, jT_p_le⟩, fun d h0 hm Qm x F kq => eM_sun_b1 x F hβ k0 r0 kq⟩)

