/-- the model's republic at a place of its loop -/
def jq_RP (d n0 : Nat) (Q : Option jx_V → jx_H → Prop) (y : jx_V) (pc : Nat) (h : jx_H) : Prop := jx_W (jm_MD_republic, d + 21, 0, 0, false, 1, n0) Q 0 0 pc [some (jv_r 11 0), some y] [] h
set_option maxHeartbeats 800000 in
set_option maxRecDepth 100000 in
theorem eM_rp_end {d n0 : Nat} {Q : Option jx_V → jx_H → Prop} {h : jx_H} {B : Nat → Int32} {sz t : Nat} {y : jx_V} (m : jT_mc h B sz t) (xg : jh_I h 11 0 4 = 0) (hK : jT_K B sz t = 0) (k : jq_RP d n0 Q y 51 h)  : jx_W (jm_MD_republic, d + 21, 0, 0, false, 1, n0) Q 0 0 42 [some (jv_r 11 0), some (y)] [] h := by
  refine jr_aload rfl rfl ?_
  refine jr_cv0 (mc' := 0) (ms' := 0) rfl jm_MD_isGood_n jm_MD_isGood_f rfl rfl rfl rfl rfl rfl rfl (Nat.zero_le _) (Nat.zero_le _) ?_
  show jx_W (jm_MD_isGood, _, _, _, _, _, _) _ 0 0 0 [some _] [] _
  refine jr_aload rfl rfl ?_
  refine jr_getI rfl rfl ?_
  refine jr_if_ne rfl (fun z => absurd xg z) (fun _ => ?_)
  refine jr_ic rfl ?_
  refine jr_goto rfl ?_
  refine jr_zret rfl rfl rfl (Nat.zero_le _) (Nat.zero_le _) ?_
  refine jr_if_eq rfl (fun z => absurd z (by decide)) (fun _ => ?_)
  refine jr_aload rfl rfl ?_
  refine jr_getI rfl rfl ?_
  rw [m.2.2.1]
  refine jr_if_eq rfl (fun _ => ?_) (fun z => absurd (jT_mt0.mpr hK) z)
  exact k

set_option maxHeartbeats 800000 in
set_option maxRecDepth 100000 in
theorem eM_rp_bad {d n0 : Nat} {Q : Option jx_V → jx_H → Prop} {h : jx_H} {y : jx_V} (xg : ¬ jh_I h 11 0 4 = 0) (k : jq_RP d n0 Q y 51 h)  : jx_W (jm_MD_republic, d + 21, 0, 0, false, 1, n0) Q 0 0 42 [some (jv_r 11 0), some (y)] [] h := by
  refine jr_aload rfl rfl ?_
  refine jr_cv0 (mc' := 0) (ms' := 0) rfl jm_MD_isGood_n jm_MD_isGood_f rfl rfl rfl rfl rfl rfl rfl (Nat.zero_le _) (Nat.zero_le _) ?_
  show jx_W (jm_MD_isGood, _, _, _, _, _, _) _ 0 0 0 [some _] [] _
  refine jr_aload rfl rfl ?_
  refine jr_getI rfl rfl ?_
  refine jr_if_ne rfl (fun _ => ?_) (fun z => absurd z xg)
  refine jr_ic rfl ?_
  refine jr_zret rfl rfl rfl (Nat.zero_le _) (Nat.zero_le _) ?_
  refine jr_if_eq rfl (fun _ => ?_) (fun z => absurd (by decide) z)
  exact k

set_option maxHeartbeats 800000 in
set_option maxRecDepth 100000 in
theorem eM_rp_G {d n0 : Nat} {Q : Option jx_V → jx_H → Prop} {h0 h : jx_H} {B : Nat → Int32} {sz β t : Nat} {V : Nat → Nat → Nat} {W : Nat → Nat → List Nat} {D : Nat → Int32} {t2 : Nat} {V2 : Nat → Nat → Nat} {W2 : Nat → Nat → List Nat} {D2 : Nat → Int32} {y : jx_V} (x : jML h B sz β t V W D) (F : jMF β h0 h) (hK : ¬ jT_K B sz t = 0) (g : jLG jm_MD_readLine 20 B sz β t V W D t2 V2 W2 D2) (k : ∀ h', jMF β h0 h' → jML h' B sz β t2 V2 W2 D2 → jq_RP d n0 Q y 42 h')  : jx_W (jm_MD_republic, d + 21, 0, 0, false, 1, n0) Q 0 0 42 [some (jv_r 11 0), some (y)] [] h := by
  obtain ⟨⟨t0, m0, xg, b0, -, -, -, -⟩, -, -⟩ := id x
  refine jr_aload rfl rfl ?_
  refine jr_cv0 (mc' := 0) (ms' := 0) rfl jm_MD_isGood_n jm_MD_isGood_f rfl rfl rfl rfl rfl rfl rfl (Nat.zero_le _) (Nat.zero_le _) ?_
  show jx_W (jm_MD_isGood, _, _, _, _, _, _) _ 0 0 0 [some _] [] _
  refine jr_aload rfl rfl ?_
  refine jr_getI rfl rfl ?_
  refine jr_if_ne rfl (fun z => absurd xg z) (fun _ => ?_)
  refine jr_ic rfl ?_
  refine jr_goto rfl ?_
  refine jr_zret rfl rfl rfl (Nat.zero_le _) (Nat.zero_le _) ?_
  refine jr_if_eq rfl (fun z => absurd z (by decide)) (fun _ => ?_)
  refine jr_aload rfl rfl ?_
  refine jr_getI rfl rfl ?_
  rw [m0.2.2.1]
  refine jr_if_eq rfl (fun z => absurd z (fun z => hK (jT_mt0.mp z))) (fun _ => ?_)
  refine jr_aload rfl rfl ?_
  refine jr_cv0 (mc' := 0) (ms' := 0) rfl jm_MD_readLine_n jm_MD_readLine_f rfl rfl rfl rfl rfl rfl rfl (Nat.zero_le _) (Nat.zero_le _) ?_
  refine g d _ _ _ x F (fun h1 F1 x1 => ?_)
  refine jr_goto rfl ?_
  exact k h1 F1 x1

set_option maxHeartbeats 800000 in
set_option maxRecDepth 100000 in
theorem eM_rp_B {d n0 : Nat} {Q : Option jx_V → jx_H → Prop} {h0 h : jx_H} {B : Nat → Int32} {sz β t : Nat} {V : Nat → Nat → Nat} {W : Nat → Nat → List Nat} {D : Nat → Int32} {kd : Int32} {pl : Nat} {y : jx_V} (x : jML h B sz β t V W D) (F : jMF β h0 h) (hK : ¬ jT_K B sz t = 0) (hk : jFk sz kd pl) (g : jLB jm_MD_readLine 20 B sz β t V W D kd pl) (k : ∀ h', jMF β h0 h' → jh_I h' 11 0 4 = kd → jPl h' pl → jq_RP d n0 Q y 51 h')  : jx_W (jm_MD_republic, d + 21, 0, 0, false, 1, n0) Q 0 0 42 [some (jv_r 11 0), some (y)] [] h := by
  obtain ⟨⟨t0, m0, xg, b0, -, -, -, -⟩, -, -⟩ := id x
  refine jr_aload rfl rfl ?_
  refine jr_cv0 (mc' := 0) (ms' := 0) rfl jm_MD_isGood_n jm_MD_isGood_f rfl rfl rfl rfl rfl rfl rfl (Nat.zero_le _) (Nat.zero_le _) ?_
  show jx_W (jm_MD_isGood, _, _, _, _, _, _) _ 0 0 0 [some _] [] _
  refine jr_aload rfl rfl ?_
  refine jr_getI rfl rfl ?_
  refine jr_if_ne rfl (fun z => absurd xg z) (fun _ => ?_)
  refine jr_ic rfl ?_
  refine jr_goto rfl ?_
  refine jr_zret rfl rfl rfl (Nat.zero_le _) (Nat.zero_le _) ?_
  refine jr_if_eq rfl (fun z => absurd z (by decide)) (fun _ => ?_)
  refine jr_aload rfl rfl ?_
  refine jr_getI rfl rfl ?_
  rw [m0.2.2.1]
  refine jr_if_eq rfl (fun z => absurd z (fun z => hK (jT_mt0.mp z))) (fun _ => ?_)
  refine jr_aload rfl rfl ?_
  refine jr_cv0 (mc' := 0) (ms' := 0) rfl jm_MD_readLine_n jm_MD_readLine_f rfl rfl rfl rfl rfl rfl rfl (Nat.zero_le _) (Nat.zero_le _) ?_
  refine g d _ _ _ x F (fun h1 F1 e1 p1 => ?_)
  refine jr_goto rfl ?_
  exact eM_rp_bad (by rw [e1]; exact hk.1) (k h1 F1 e1 p1)

def jPR (B : Nat → Int32) (sz β t : Nat) (V : Nat → Nat → Nat) (W : Nat → Nat → List Nat) (D : Nat → Int32) (t' : Nat) (V' : Nat → Nat → Nat) (W' : Nat → Nat → List Nat) (D' : Nat → Int32) : Prop := ∀ (d n0 : Nat) (y : jx_V) (h0 h : jx_H) (Q : Option jx_V → jx_H → Prop), jML h B sz β t V W D → jMF β h0 h → (∀ h', jMF β h0 h' → jML h' B sz β t' V' W' D' → jq_RP d n0 Q y 51 h') → jq_RP d n0 Q y 42 h
def jPB (B : Nat → Int32) (sz β t : Nat) (V : Nat → Nat → Nat) (W : Nat → Nat → List Nat) (D : Nat → Int32) (kd : Int32) (pl : Nat) : Prop := ∀ (d n0 : Nat) (y : jx_V) (h0 h : jx_H) (Q : Option jx_V → jx_H → Prop), jML h B sz β t V W D → jMF β h0 h → (∀ h', jMF β h0 h' → jh_I h' 11 0 4 = kd → jPl h' pl → jq_RP d n0 Q y 51 h') → jq_RP d n0 Q y 42 h
/-- what the rest of a text comes to -/
def jEI (h0 : jx_H) (B : Nat → Int32) (sz T β ρ t : Nat) (V : Nat → Nat → Nat) (W : Nat → Nat → List Nat) (D : Nat → Int32) (r : Option jx_V) (h' : jx_H) : Prop :=
  (r = some (jv_i 1) ∧ ∃ h1 t' V' W' D', jLS h0 h1 B sz T ρ t' V' W' D' ∧ (V' 0 5 = 1 ∧ h' = h1 ∨ V' 0 5 = 0 ∧ h' = jFs h1 ρ (30 * V' 0 0) 1) ∧ jPR B sz β t V W D t' V' W' D') ∨
  (r = some (jv_i 0) ∧ ∃ kd pl, jCF ρ h0 h' ∧ jh_I h' 6 0 8 = kd ∧ jh_I h' 6 0 9 = nI pl ∧ jFk sz kd pl ∧ jPB B sz β t V W D kd pl)
theorem jPB_mk {B : Nat → Int32} {sz β t : Nat} {V : Nat → Nat → Nat} {W : Nat → Nat → List Nat} {D : Nat → Int32} {kd : Int32} {pl : Nat} (hK : ¬ jT_K B sz t = 0) (hk : jFk sz kd pl) (g : jLB jm_MD_readLine 20 B sz β t V W D kd pl) : jPB B sz β t V W D kd pl := fun _ _ _ _ _ _ x F k => eM_rp_B x F hK hk g k
theorem jEI_G {h0 : jx_H} {T ρ : Nat} {B : Nat → Int32} {sz β t : Nat} {V : Nat → Nat → Nat} {W : Nat → Nat → List Nat} {D : Nat → Int32} {t2 : Nat} {V2 : Nat → Nat → Nat} {W2 : Nat → Nat → List Nat} {D2 : Nat → Int32} {r : Option jx_V} {h' : jx_H} (hK : ¬ jT_K B sz t = 0) (g : jLG jm_MD_readLine 20 B sz β t V W D t2 V2 W2 D2) (o : jEI h0 B sz T β ρ t2 V2 W2 D2 r h') : jEI h0 B sz T β ρ t V W D r h' := by
  rcases o with ⟨e, h1, t', V', W', D', a, b, c⟩ | ⟨e, kd, pl, a, b, c, f, p⟩
  · exact Or.inl ⟨e, h1, t', V', W', D', a, b, fun d n0 y h0 h Q x F k => eM_rp_G x F hK g (fun h2 F2 x2 => c d n0 y h0 h2 Q x2 F2 k)⟩
  · exact Or.inr ⟨e, kd, pl, a, b, c, f, fun d n0 y h0 h Q x F k => eM_rp_G x F hK g (fun h2 F2 x2 => p d n0 y h0 h2 Q x2 F2 k)⟩
set_option maxHeartbeats 800000 in
set_option maxRecDepth 100000 in
theorem lp_ri {d n0 : Nat} {Q : Option jx_V → jx_H → Prop} {h0 : jx_H} {B : Nat → Int32} {sz T β ρ t : Nat} {V : Nat → Nat → Nat} {W : Nat → Nat → List Nat} {D : Nat → Int32} {h : jx_H} (x : jLS h0 h B sz T ρ t V W D) (hβ : β < 2) (k : ∀ r h', jEI h0 B sz T β ρ t V W D r h' → Q r h')  : jx_W (jm_Rdr_readInto, d + 88, 0, 0, false, 0, n0) Q 0 0 20 [some (jv_r 6 0), some (jv_r 7 ρ), some (jv_i (nI (jsm V)))] [] h := by
  obtain ⟨xz, xD, xF, ⟨v1, v2, v3, -, -, -, -, v8, v9, v10, v11, v12, -, -, -, -, v17, -, -, -, -⟩, x5, x6⟩ := id x
  have w5 : V 12 5 ≤ 1 := (v17 5 (by decide)).1
  have hjs : jsm V ≤ 27 := by unfold jsm; omega
  have hkl : jT_K B sz t < 256 := jT_k_lt
  have hk : jh_I h 9 0 8 = nI (jT_K B sz t) := xz.2.1.2.1
  have hρ : jh_M h 6 0 4 = ρ + 1 := xD.2.2.2.2.2.2.2.2.2.2.2.2.2.2
  have c0 : jh_I h 7 ρ 0 = nI (V 0 0) := xD.1.1
  have f2 : jh_I h 7 ρ 8 = nI (V 0 9) := xD.2.2.2.2.2.1
  refine jr_iload rfl rfl ?_
  refine jr_ic rfl ?_
  refine jr_icmp_ge rfl (fun z => absurd z (nI_ge (a := jsm V) (b := 1700) (by omega) (by decide))) (fun _ => ?_)
  refine jr_aload rfl rfl ?_
  refine jr_getR rfl rfl rfl rfl (Or.inl rfl) ?_
  refine jr_getI rfl rfl ?_
  refine jr_if_eq rfl (fun c26 => ?_) (fun c26 => ?_)
  · refine jr_aload rfl rfl ?_
    refine jr_getM rfl rfl rfl rfl hρ ?_
    refine jr_cv0 (mc' := 0) (ms' := 0) rfl jm_Rep_settleSun_n jm_Rep_settleSun_f rfl rfl rfl rfl rfl rfl rfl (Nat.zero_le _) (Nat.zero_le _) ?_
    show jx_W (jm_Rep_settleSun, _, _, _, _, _, _) _ 0 0 0 [some _] [] _
    refine jr_aload rfl rfl ?_
    refine jr_getI rfl rfl ?_
    refine jr_if_ne rfl (fun c2RepsettleSun => ?_) (fun c2RepsettleSun => ?_)
    · refine jr_vret rfl rfl (Nat.zero_le _) (Nat.zero_le _) ?_
      refine jr_ic rfl ?_
      refine jr_zret rfl rfl rfl (Nat.zero_le _) (Nat.zero_le _) ?_
      have hK0 : jT_K B sz t = 0 := jn_eq (hk.symm.trans c26) (by omega) (by decide)
      have hs : V 0 5 = 1 := by
        rcases Nat.lt_or_ge (V 0 5) 1 with e | e
        · exact absurd (f2.trans (congrArg nI (v10 (by omega)).2)) c2RepsettleSun
        · omega
      exact k _ _ (Or.inl ⟨rfl, h, t, V, W, D, x, Or.inl ⟨hs, rfl⟩, fun d n0 y h0 h Q x F k => eM_rp_end x.1.2.1 x.1.2.2.1 hK0 (k h F x)⟩)
    · refine jr_aload rfl rfl ?_
      refine jr_ic rfl ?_
      refine jr_aload rfl rfl ?_
      refine jr_getI rfl rfl ?_
      refine jr_imul rfl ?_
      refine jr_ic rfl ?_
      refine jr_ic rfl ?_
      refine jr_cv3 (mc' := 0) (ms' := 0) rfl jm_Rep_setSun_n jm_Rep_setSun_f rfl rfl rfl rfl rfl rfl rfl (Nat.zero_le _) (Nat.zero_le _) ?_
      show jx_W (jm_Rep_setSun, _, _, _, _, _, _) _ 0 0 0 [some _, some _, some _, some _] [] _
      refine jr_aload rfl rfl ?_
      refine jr_iload rfl rfl ?_
      refine jr_iload rfl rfl ?_
      refine jr_imul rfl ?_
      refine jr_iload rfl rfl ?_
      refine jr_iadd rfl ?_
      rw [show (30 : Int32) * jh_I h 7 ρ 0 * 1 + 0 = nI (30 * V 0 0) from by rw [c0, Int32.mul_one, Int32.add_zero]; exact jn_mul (show (30 : Int32) = nI 30 from rfl) rfl]
      refine jr_putI rfl rfl ?_
      refine jr_aload rfl rfl ?_
      refine jr_iload rfl rfl ?_
      refine jr_putI rfl rfl ?_
      refine jr_vret rfl rfl (Nat.zero_le _) (Nat.zero_le _) ?_
      refine jr_vret rfl rfl (Nat.zero_le _) (Nat.zero_le _) ?_
      refine jr_ic rfl ?_
      refine jr_zret rfl rfl rfl (Nat.zero_le _) (Nat.zero_le _) ?_
      have hK0 : jT_K B sz t = 0 := jn_eq (hk.symm.trans c26) (by omega) (by decide)
      have hs : V 0 5 = 0 := by
        rcases Nat.lt_or_ge (V 0 5) 1 with e | e
        · omega
        · have e9 := v9 (by omega)
          have := jn_eq (b := 0) (f2.symm.trans c2RepsettleSun) (by omega) (by decide)
          omega
      exact k _ _ (Or.inl ⟨rfl, h, t, V, W, D, x, Or.inr ⟨hs, rfl⟩, fun d n0 y h0 h Q x F k => eM_rp_end x.1.2.1 x.1.2.2.1 hK0 (k h F x)⟩)
  · refine jr_aload rfl rfl ?_
    refine jr_cv0 (mc' := 0) (ms' := 0) rfl jm_Rdr_readLine_n jm_Rdr_readLine_f rfl rfl rfl rfl rfl rfl rfl (Nat.zero_le _) (Nat.zero_le _) ?_
    have hK : ¬ jT_K B sz t = 0 := fun y => c26 (hk.trans (congrArg nI y))
    refine ev_line (β := β) x hβ (fun r h1 o => ?_)
    rcases o with ⟨rfl, t2, V2, W2, D2, hs, y, gg⟩ | ⟨rfl, kd, pl, f, y1, y2, y3, gg⟩ | ⟨rfl, t2, z, rk, f, gg⟩
    · refine jr_if_eq rfl (fun z => absurd z (by decide)) (fun _ => ?_)
      refine jr_aload rfl rfl ?_
      refine jr_ic rfl ?_
      refine jr_cv1 (mc' := 0) (ms' := 0) rfl jm_Rdr_want_n jm_Rdr_want_f rfl rfl rfl rfl rfl rfl rfl (Nat.zero_le _) (Nat.zero_le _) ?_
      refine ev_want (w := 59) (show jTS h1 B sz T t2 from y.1) (by decide) (by decide) (fun k1 h2 g2 z2 => ?_) (fun k1 h2 g2 f8 f9 => ?_)
      · refine jr_if_ne rfl (fun _ => ?_) (fun z => absurd z (by decide))
        refine jr_iinc2 rfl rfl ?_
        refine jr_goto rfl ?_
        rw [jn_S, ← hs]
        exact lp_ri (jLS_f y g2 z2) hβ (fun r h o => k r h (jEI_G hK (jRG_y gg k1) o))
      · refine jr_if_ne rfl (fun z => absurd (by decide) z) (fun _ => ?_)
        refine jr_ic rfl ?_
        refine jr_zret rfl rfl rfl (Nat.zero_le _) (Nat.zero_le _) ?_
        exact k _ _ (Or.inr ⟨rfl, _, _, jCF_f y.2.2.1 g2, f8, f9, ⟨jX_kd_n _, jT_p_le⟩, jPB_mk hK ⟨jX_kd_n _, jT_p_le⟩ (jRG_n gg k1)⟩)
    · refine jr_if_eq rfl (fun _ => ?_) (fun z => absurd (by decide) z)
      refine jr_ic rfl ?_
      refine jr_zret rfl rfl rfl (Nat.zero_le _) (Nat.zero_le _) ?_
      exact k _ _ (Or.inr ⟨rfl, kd, pl, f, y1, y2, y3, jPB_mk hK y3 gg⟩)
    · refine jr_if_eq rfl (fun z => absurd z (by decide)) (fun _ => ?_)
      refine jr_aload rfl rfl ?_
      refine jr_ic rfl ?_
      refine jr_cv1 (mc' := 0) (ms' := 0) rfl jm_Rdr_want_n jm_Rdr_want_f rfl rfl rfl rfl rfl rfl rfl (Nat.zero_le _) (Nat.zero_le _) ?_
      refine ev_want (w := 59) z (by decide) (by decide) (fun k1 => absurd (jT_rk4.mp rk) (by omega)) (fun k1 h2 g2 f8 f9 => ?_)
      refine jr_if_ne rfl (fun z => absurd (by decide) z) (fun _ => ?_)
      refine jr_ic rfl ?_
      refine jr_zret rfl rfl rfl (Nat.zero_le _) (Nat.zero_le _) ?_
      exact k _ _ (Or.inr ⟨rfl, 2, jT_p B sz t2, jCF_f f g2, f8.trans (show jX_kd (jT_K B sz t2) = 2 from if_neg (by have := jT_rk4.mp rk; omega)), f9, ⟨by decide, jT_p_le⟩, jPB_mk hK ⟨by decide, jT_p_le⟩ gg⟩)
termination_by 28 - jsm V
decreasing_by all_goals omega

def jCr (ρ : Nat) (h h' : jx_H) : Prop := (∀ a b, ¬ (b = ρ ∧ (a = 7 ∨ a = 26 ∨ a = 27)) → jh_I h' a b = jh_I h a b) ∧ h'.2 = h.2
theorem jCr_r (ρ : Nat) (h : jx_H) : jCr ρ h h := ⟨fun _ _ _ => rfl, rfl⟩
theorem jCr_I {ρ a : Nat} {h0 h : jx_H} {F : Nat → Int32} (f : jCr ρ h0 h) (ha : a = 7 ∨ a = 26 ∨ a = 27) : jCr ρ h0 (ju_I h a ρ F) := ⟨fun c b z => (if_neg (fun y => z ⟨y.2, by omega⟩)).trans (f.1 c b z), f.2⟩
/-- an empty republic of the class -/
def jCl (h : jx_H) (ρ : Nat) : Prop := jh_I h 7 ρ 0 = 0 ∧ jh_I h 7 ρ 3 = 0 ∧ jh_I h 7 ρ 5 = 0 ∧ jh_I h 7 ρ 7 = 0 ∧ jh_I h 7 ρ 8 = 0 ∧ jh_I h 7 ρ 9 = 122 ∧ jh_I h 7 ρ 10 = 7 ∧ jh_I h 7 ρ 11 = 0 ∧ jh_I h 7 ρ 12 = 0 ∧ jh_I h 7 ρ 13 = 0 ∧ jh_I h 7 ρ 15 = 0 ∧ ∀ w, w < 6 → jh_I h 26 ρ w = 0 ∧ jh_I h 27 ρ w = 0
theorem jq_up (h : jx_H) (a ρ : Nat) (F : Nat → Int32) (k : Nat) (x : Int32) : ju_I (ju_I h a ρ F) a ρ (upd (jh_I (ju_I h a ρ F) a ρ) k x) = ju_I h a ρ (upd F k x) := by rw [jg_II, jg_uu]
theorem jq_c26 (h : jx_H) (ρ : Nat) (F G : Nat → Int32) (k : Nat) (x : Int32) : ju_I (ju_I (ju_I h 26 ρ F) 27 ρ G) 26 ρ (upd (jh_I (ju_I (ju_I h 26 ρ F) 27 ρ G) 26 ρ) k x) = ju_I (ju_I h 26 ρ (upd F k x)) 27 ρ G := by
  rw [show jh_I (ju_I (ju_I h 26 ρ F) 27 ρ G) 26 ρ = F from jg_II h 26 ρ F]
  unfold ju_I
  refine congrArg (·, h.2) ?_
  funext a b
  dsimp only
  by_cases e : a = 26 ∧ b = ρ
  · rw [if_pos e, if_neg (fun z => by omega), if_pos e]
  · rw [if_neg e, if_neg e]
    split
    · rfl
    · rfl
set_option maxHeartbeats 800000 in
set_option maxRecDepth 100000 in
theorem lp_clear {d n0 : Nat} {Q : Option jx_V → jx_H → Prop} {h : jx_H} {ρ : Nat} (i : Nat) (F G : Nat → Int32) (hi : i ≤ 6) (hF : ∀ j, j < i → F j = 0 ∧ G j = 0) (k : ∀ F G : Nat → Int32, (∀ j, j < 6 → F j = 0 ∧ G j = 0) → Q none (ju_I (ju_I h 26 ρ F) 27 ρ G))  : jx_W (jm_Rep_clear, d + 1, 0, 0, false, 0, n0) Q 0 0 35 [some (jv_r 7 ρ), some (jv_i (nI i))] [] (ju_I (ju_I h 26 ρ F) 27 ρ G) := by
  refine jr_iload rfl rfl ?_
  refine jr_aload rfl rfl ?_
  refine jr_getR rfl rfl rfl rfl (Or.inl rfl) ?_
  refine jr_alen (so := 1) (len := 6) rfl rfl rfl rfl ?_
  refine jr_icmp_ge rfl (fun c39 => ?_) (fun c39 => ?_)
  · refine jr_vret rfl rfl (Nat.zero_le _) (Nat.zero_le _) ?_
    exact k F G (fun j hj => hF j (by have := jn_le (show nI 6 ≤ nI i from c39) (by omega) (by omega); omega))
  · refine jr_iload rfl rfl ?_
    refine jr_aload rfl rfl ?_
    refine jr_getR rfl rfl rfl rfl (Or.inl rfl) ?_
    refine jr_alen (so := 1) (len := 6) rfl rfl rfl rfl ?_
    refine jr_icmp_ge rfl (fun z => absurd z (nI_ge (a := i) (b := 6) (show i < 6 from jn_nle (show ¬ nI 6 ≤ nI i from c39) (by omega) (by omega)) (by decide))) (fun _ => ?_)
    have hi6 : i < 6 := jn_nle (show ¬ nI 6 ≤ nI i from c39) (by omega) (by omega)
    refine jr_aload rfl rfl ?_
    refine jr_getR rfl rfl rfl rfl (Or.inl rfl) ?_
    refine jr_iload rfl rfl ?_
    refine jr_ic rfl ?_
    refine jr_iast (len := 6) rfl rfl rfl (by omega) ?_
    rw [jq_c26]
    refine jr_aload rfl rfl ?_
    refine jr_getR rfl rfl rfl rfl (Or.inl rfl) ?_
    refine jr_iload rfl rfl ?_
    refine jr_ic rfl ?_
    refine jr_iast (len := 6) rfl rfl rfl (by omega) ?_
    rw [jq_up]
    refine jr_iinc1 rfl rfl ?_
    refine jr_goto rfl ?_
    rw [jn_S]
    exact lp_clear (i + 1) (upd F i 0) (upd G i 0) (by omega) (fun j hj => by
      by_cases e : j = i
      · subst e
        rw [jg_us, jg_us]
        exact ⟨rfl, rfl⟩
      · rw [jg_un e, jg_un e]
        exact hF j (by omega)) k
termination_by 6 - i
decreasing_by all_goals omega

theorem lp_clear0 {d n0 : Nat} {Q : Option jx_V → jx_H → Prop} {h : jx_H} {ρ : Nat} (k : ∀ F G : Nat → Int32, (∀ j, j < 6 → F j = 0 ∧ G j = 0) → Q none (ju_I (ju_I h 26 ρ F) 27 ρ G)) : jx_W (jm_Rep_clear, d + 1, 0, 0, false, 0, n0) Q 0 0 35 [some (jv_r 7 ρ), some (jv_i (nI 0))] [] h := by
  have := lp_clear (d := d) (n0 := n0) (Q := Q) (h := h) (ρ := ρ) 0 (jh_I h 26 ρ) (jh_I h 27 ρ) (Nat.zero_le _) (fun j hj => absurd hj (Nat.not_lt_zero _)) k
  rw [jg_self, jg_self] at this
  exact this
set_option maxHeartbeats 800000 in
set_option maxRecDepth 100000 in
theorem ev_clear {d : Nat} {h : jx_H} {Q : Option jx_V → jx_H → Prop} {ρ : Nat} (k : ∀ h', jCr ρ h h' → jCl h' ρ → Q none h')  : jx_Ev jm_Rep_clear (d + 1) 0 0 false 0 [jv_r 7 ρ] h Q := by
  show jx_W (jm_Rep_clear, d + 1, 0, 0, false, 0, _) Q 0 0 0 [some (jv_r 7 ρ), none] [] _
  refine jr_aload rfl rfl ?_
  refine jr_ic rfl ?_
  refine jr_putI rfl rfl ?_
  refine jr_aload rfl rfl ?_
  refine jr_ic rfl ?_
  refine jr_putI rfl rfl ?_
  rw [jq_up]
  refine jr_aload rfl rfl ?_
  refine jr_ic rfl ?_
  refine jr_putI rfl rfl ?_
  rw [jq_up]
  refine jr_aload rfl rfl ?_
  refine jr_ic rfl ?_
  refine jr_putI rfl rfl ?_
  rw [jq_up]
  refine jr_aload rfl rfl ?_
  refine jr_ic rfl ?_
  refine jr_putI rfl rfl ?_
  rw [jq_up]
  refine jr_aload rfl rfl ?_
  refine jr_ic rfl ?_
  refine jr_putI rfl rfl ?_
  rw [jq_up]
  refine jr_aload rfl rfl ?_
  refine jr_ic rfl ?_
  refine jr_putI rfl rfl ?_
  rw [jq_up]
  refine jr_aload rfl rfl ?_
  refine jr_ic rfl ?_
  refine jr_putZ rfl rfl (by first | exact Or.inl rfl | exact Or.inr rfl | assumption) ?_
  rw [jq_up]
  refine jr_aload rfl rfl ?_
  refine jr_ic rfl ?_
  refine jr_putI rfl rfl ?_
  rw [jq_up]
  refine jr_aload rfl rfl ?_
  refine jr_ic rfl ?_
  refine jr_putZ rfl rfl (by first | exact Or.inl rfl | exact Or.inr rfl | assumption) ?_
  rw [jq_up]
  refine jr_aload rfl rfl ?_
  refine jr_ic rfl ?_
  refine jr_putI rfl rfl ?_
  rw [jq_up]
  refine jr_ic rfl ?_
  refine jr_ist1 rfl rfl ?_
  refine lp_clear0 (fun F G hFG => ?_)
  have e7 : jh_I (ju_I (ju_I (ju_I h 7 ρ (upd (upd (upd (upd (upd (upd (upd (upd (upd (upd (upd (jh_I h 7 ρ) 0 0) 3 0) 5 0) 7 0) 8 0) 9 122) 10 7) 11 0) 12 0) 13 0) 15 0)) 26 ρ F) 27 ρ G) 7 ρ = (upd (upd (upd (upd (upd (upd (upd (upd (upd (upd (upd (jh_I h 7 ρ) 0 0) 3 0) 5 0) 7 0) 8 0) 9 122) 10 7) 11 0) 12 0) 13 0) 15 0) := jg_II _ _ _ _
  have e26 : jh_I (ju_I (ju_I (ju_I h 7 ρ (upd (upd (upd (upd (upd (upd (upd (upd (upd (upd (upd (jh_I h 7 ρ) 0 0) 3 0) 5 0) 7 0) 8 0) 9 122) 10 7) 11 0) 12 0) 13 0) 15 0)) 26 ρ F) 27 ρ G) 26 ρ = F := jg_II _ _ _ _
  have e27 : jh_I (ju_I (ju_I (ju_I h 7 ρ (upd (upd (upd (upd (upd (upd (upd (upd (upd (upd (upd (jh_I h 7 ρ) 0 0) 3 0) 5 0) 7 0) 8 0) 9 122) 10 7) 11 0) 12 0) 13 0) 15 0)) 26 ρ F) 27 ρ G) 27 ρ = G := jg_II _ _ _ _
  exact k _ (jCr_I (jCr_I (jCr_I (jCr_r _ _) (by decide)) (by decide)) (by decide)) ⟨(congrFun e7 0).trans rfl, (congrFun e7 3).trans rfl, (congrFun e7 5).trans rfl, (congrFun e7 7).trans rfl, (congrFun e7 8).trans rfl, (congrFun e7 9).trans rfl, (congrFun e7 10).trans rfl, (congrFun e7 11).trans rfl, (congrFun e7 12).trans rfl, (congrFun e7 13).trans rfl, (congrFun e7 15).trans rfl, fun w hw => ⟨(congrFun e26 w).trans (hFG w hw).1, (congrFun e27 w).trans (hFG w hw).2⟩⟩

def jv0 : Nat → Nat → Nat := fun p q => if p = 0 ∧ q = 11 then 7 else 0
def jw0 : Nat → Nat → List Nat := fun _ _ => []
def jd0 : Nat → Int32 := fun _ => 0
theorem jv0_0 {p q : Nat} (h : ¬ (p = 0 ∧ q = 11)) : jv0 p q = 0 := if_neg h
theorem jVD_0 : jVD jv0 jw0 := ⟨by decide, by decide, by decide, by decide, fun j hj => absurd hj (Nat.not_lt_zero _), fun j hj => absurd hj (Nat.not_lt_zero _), fun j hj => absurd hj (Nat.not_lt_zero _), by decide, fun z => absurd z (by decide), fun _ => ⟨rfl, rfl⟩, by decide, by decide, by decide, by decide, by decide, by decide,
  fun w hw => by rw [jv0_0 (by omega), jv0_0 (by omega), jv0_0 (by omega), jv0_0 (by omega)]; exact ⟨by decide, by decide, by decide, fun _ => rfl⟩, fun w _ _ => jv0_0 (by omega), fun j hj => absurd hj (Nat.not_lt_zero _), fun j hj => absurd hj (Nat.not_lt_zero _), fun j hj => absurd hj (Nat.not_lt_zero _)⟩
/-- what reading changes ahead of its first line -/
def jKF (ρ : Nat) (h h2 : jx_H) : Prop := (∀ a b, a ≠ 9 → a ≠ 6 → a ≠ 18 → a ≠ 19 → ¬ (b = ρ ∧ (a = 7 ∨ a = 26 ∨ a = 27)) → jh_I h2 a b = jh_I h a b) ∧ (∀ a b, a ≠ 9 → a ≠ 20 → jh_L h2 a b = jh_L h a b) ∧ (∀ a b, a ≠ 6 → jh_M h2 a b = jh_M h a b) ∧ jh_n h2 = jh_n h
set_option maxHeartbeats 800000 in
set_option maxRecDepth 100000 in
theorem ev_readInto {d : Nat} {h : jx_H} {Q : Option jx_V → jx_H → Prop} {B : Nat → Int32} {sz β ρ : Nat} (hρ : ρ < 2) (hβ : β < 2) (hWo : jz_Wo h) (hB : jh_I h 16 0 = B) (hS : jh_I h 9 0 5 = nI sz) (hsz : sz ≤ 1700) (k : ∀ h2 T r h', jKF ρ h h2 → jh_I h2 9 0 5 = nI sz → jEI h2 B sz T β ρ 0 jv0 jw0 jd0 r h' → Q r h')  : jx_Ev jm_Rdr_readInto (d + 88) 0 0 false 0 [jv_r 6 0, jv_r 7 ρ] h Q := by
  show jx_W (jm_Rdr_readInto, d + 88, 0, 0, false, 0, _) Q 0 0 0 [some (jv_r 6 0), some (jv_r 7 ρ), none] [] _
  refine jr_aload rfl rfl ?_
  refine jr_aload rfl rfl ?_
  refine jr_putM rfl rfl rfl rfl ?_
  refine jr_aload rfl rfl ?_
  refine jr_getM rfl rfl rfl rfl rfl ?_
  refine jr_cv0 (mc' := 0) (ms' := 0) rfl jm_Rep_clear_n jm_Rep_clear_f rfl rfl rfl rfl rfl rfl rfl (Nat.zero_le _) (Nat.zero_le _) ?_
  refine ev_clear (fun h1 f1 cl1 => ?_)
  have e1c := f1.2
  refine jr_aload rfl rfl ?_
  refine jr_ic rfl ?_
  refine jr_putI rfl rfl ?_
  refine jr_aload rfl rfl ?_
  refine jr_ic rfl ?_
  refine jr_putI rfl rfl ?_
  refine jr_aload rfl rfl ?_
  refine jr_ic rfl ?_
  refine jr_putI rfl rfl ?_
  refine jr_aload rfl rfl ?_
  refine jr_getR rfl rfl rfl rfl (Or.inl rfl) ?_
  refine jr_cv0 (mc' := 0) (ms' := 0) rfl jm_Tape_cut_n jm_Tape_cut_f rfl rfl rfl rfl rfl rfl rfl (Nat.zero_le _) (Nat.zero_le _) ?_
  refine ev_cut (B := B) (sz := sz) hsz (fun i hi => (congrFun (congrFun (congrFun (congrArg (·.1) e1c) 17) 0) i).trans (hWo i hi)) ((f1.1 16 0 (by omega)).trans hB) ((congrFun (f1.1 9 0 (by omega)) 5).trans hS) ⟨rfl, rfl⟩ (fun h2 T f2 b2 s2 al2 cu2 => ?_)
  refine jr_ic rfl ?_
  refine jr_ist2 rfl rfl ?_
  have D2 : jCD h2 ρ jv0 jw0 jd0 := by
    have g7 : jh_I h2 7 ρ = jh_I h1 7 ρ := f2.1 7 ρ (by decide) (by decide) (by decide)
    have g26 : jh_I h2 26 ρ = jh_I h1 26 ρ := f2.1 26 ρ (by decide) (by decide) (by decide)
    have g27 : jh_I h2 27 ρ = jh_I h1 27 ρ := f2.1 27 ρ (by decide) (by decide) (by decide)
    obtain ⟨l0, l3, l5, l7, l8, l9, l10, l11, l12, l13, l15, lw⟩ := cl1
    refine ⟨⟨(congrFun g7 0).trans l0, fun j hj => absurd hj (Nat.not_lt_zero _)⟩, ⟨(congrFun g7 3).trans l3, fun j hj => absurd hj (Nat.not_lt_zero _)⟩, ⟨(congrFun g7 5).trans l5, fun j hj => absurd hj (Nat.not_lt_zero _)⟩, fun w hw => ?_, (congrFun g7 7).trans l7, (congrFun g7 8).trans l8, (congrFun g7 9).trans l9, (congrFun g7 10).trans l10, (congrFun g7 11).trans l11, (congrFun g7 12).trans l12, (congrFun g7 15).trans l15, ?_, Or.inl ⟨(congrFun g7 13).trans l13, fun q hq => absurd hq (Nat.not_lt_zero _)⟩, fun q hq => absurd hq (Nat.not_lt_zero _), ?_⟩
    · rw [g26, g27, jv0_0 (by omega), jv0_0 (by omega)]
      exact lw w hw
    · exact (congrFun (f2.1 6 0 (by decide) (by decide) (by decide)) 5).trans rfl
    · have e1 : jh_M h2 6 0 4 = jh_M h1 6 0 4 := congrFun (congrFun (congrFun (congrArg (·.1) f2.2.2) 6) 0) 4
      rw [e1, show jh_M h1 6 0 4 = ρ + 1 from congrFun (congrFun (congrFun (congrArg (·.2.1) e1c) 6) 0) 4]
  have X2 : jLS h2 h2 B sz T ρ 0 jv0 jw0 jd0 := ⟨⟨al2, cu2, Nat.zero_le _⟩, D2, jCF_r ρ h2, jVD_0, Nat.le_trans (Nat.le_of_eq (show 4 * jv0 0 4 = 0 from rfl)) (Nat.zero_le _), hsz⟩
  have K2 : jKF ρ h h2 := ⟨fun a b z9 z6 z18 z19 zr => (f2.1 a b z9 z18 z19).trans ((if_neg (fun y => z6 y.1)).trans ((if_neg (fun y => z6 y.1)).trans ((if_neg (fun y => z6 y.1)).trans (f1.1 a b zr)))), fun a b z9 z20 => (f2.2.1 a b z9 z20).trans (congrFun (congrFun (congrArg (·.1) e1c) a) b), fun a b z6 => (congrFun (congrFun (congrArg (·.1) f2.2.2) a) b).trans ((congrFun (congrFun (congrArg (·.2.1) e1c) a) b).trans (if_neg (fun y => z6 y.1))), (congrArg (·.2) f2.2.2).trans (congrArg (·.2.2) e1c)⟩
  rw [show (0 : Int32) = nI (jsm jv0) from rfl]
  exact lp_ri X2 hβ (fun r h3 o => k h2 T r h3 K2 s2 o)

