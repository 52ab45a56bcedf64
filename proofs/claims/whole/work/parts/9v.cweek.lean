def jLOW (h0 : jx_H) (B : Nat → Int32) (sz T β ρ t : Nat) (V : Nat → Nat → Nat) (W : Nat → Nat → List Nat) (D : Nat → Int32) (r : Option jx_V) (h' : jx_H) : Prop :=
  (r = some (jv_i 1) ∧ ∃ t' V' W' D', jsm V' = jsm V + 1 ∧ jLS h0 h' B sz T ρ t' V' W' D' ∧ (∀ (d n0 : Nat) (what : Int64) (h1 hm : jx_H) (Qm : Option jx_V → jx_H → Prop), jML hm B sz β t V W D → jMF β h1 hm → (∀ h', jMF β h1 h' → jML h' B sz β t' V' W' D' → jq_RL d n0 Qm what 82 h') → jq_RL d n0 Qm what 59 hm)) ∨
  (r = some (jv_i 0) ∧ ∃ kd pl, jCF ρ h0 h' ∧ jh_I h' 6 0 8 = kd ∧ jh_I h' 6 0 9 = nI pl ∧ jFk sz kd pl ∧ (∀ (d n0 : Nat) (what : Int64) (h1 hm : jx_H) (Qm : Option jx_V → jx_H → Prop), jML hm B sz β t V W D → jMF β h1 hm → (∀ h', jMF β h1 h' → jh_I h' 11 0 4 = kd → jPl h' pl → jq_RL d n0 Qm what 82 h') → jq_RL d n0 Qm what 59 hm))
set_option maxHeartbeats 800000 in
set_option maxRecDepth 100000 in
theorem ev_week {d : Nat} {h : jx_H} {Q : Option jx_V → jx_H → Prop} {h0 : jx_H} {B : Nat → Int32} {sz T β ρ t : Nat} {V : Nat → Nat → Nat} {W : Nat → Nat → List Nat} {D : Nat → Int32} (x : jLS h0 (jgh h V) B sz T ρ t V W D) (xb : jh_I h 6 0 5 = nI (jbt V + 8)) (hs : V 0 7 = 0) (hβ : β < 2) (k : ∀ r h', jLOW h0 B sz T β ρ t V W D r h' → Q r h')  : jx_Ev jm_Rdr_readWeek (d + 8) 0 0 false 0 [jv_r 6 0] h Q := by
  show jx_W (jm_Rdr_readWeek, d + 8, 0, 0, false, 0, _) Q 0 0 0 [some (jv_r 6 0)] [] _
  obtain ⟨xz0, xD, xF0, xV, x5, x6⟩ := id x
  have xz : jTS h B sz T t := xz0
  have xF := jCF_g xF0
  have hρ : jh_M h 6 0 4 = ρ + 1 := xD.2.2.2.2.2.2.2.2.2.2.2.2.2.2
  refine jr_aload rfl rfl ?_
  refine jr_ic rfl ?_
  refine jr_ic rfl ?_
  refine jr_cv2 (mc' := 0) (ms' := 0) rfl jm_Rdr_wantNumber_n jm_Rdr_wantNumber_f rfl rfl rfl rfl rfl rfl rfl (Nat.zero_le _) (Nat.zero_le _) ?_
  refine ev_wantN (lo := 1) (hi := 9) xz (by decide) (by decide) (fun k0 r0a r0b h1 g1 z1 w1 => ?_) (fun k0 h9 r1 v1 v2 => ?_) (fun k0 r0 h9 r1 v1 v2 => ?_)
  · have m1 : jh_M h1 6 0 4 = ρ + 1 := (congrFun (congrFun (congrFun (congrArg (·.1) g1.2.2.1) 6) 0) 4).trans hρ
    have r0 : 1 ≤ jT_v B sz (jT_p B sz t) ∧ jT_v B sz (jT_p B sz t) ≤ 9 := ⟨r0a, r0b⟩
    refine jr_if_ne rfl (fun _ => ?_) (fun z => absurd z (by decide))
    refine jr_aload rfl rfl ?_
    refine jr_getM rfl rfl rfl rfl m1 ?_
    refine jr_aload rfl rfl ?_
    refine jr_getI rfl rfl ?_
    rw [w1]
    refine jr_putI rfl rfl ?_
    refine jr_aload rfl rfl ?_
    refine jr_getM rfl rfl rfl rfl m1 ?_
    refine jr_aload rfl rfl ?_
    refine jr_getR rfl rfl rfl rfl (Or.inl rfl) ?_
    refine jr_getI rfl rfl ?_
    refine jr_ic rfl ?_
    refine jr_icmp_ne rfl (fun c18 => ?_) (fun c18 => ?_)
    · refine jr_ic rfl ?_
      refine jr_putZ rfl rfl (by first | exact Or.inl rfl | exact Or.inr rfl | assumption) ?_
      have R2 : jh_I (ju_I (ju_I h1 7 ρ (upd (jh_I h1 7 ρ) 10 (nI (jT_v B sz (jT_p B sz t))))) 7 ρ (upd (jh_I (ju_I h1 7 ρ (upd (jh_I h1 7 ρ) 10 (nI (jT_v B sz (jT_p B sz t))))) 7 ρ) 11 0)) 7 ρ = upd (upd (jh_I h 7 ρ) 10 (nI (jT_v B sz (jT_p B sz t)))) 11 (nI 0) := by
        rw [jg_II, jg_II, g1.1 7 ρ (by decide) (by decide)]
        rfl
      have A2 : ∀ a b, a ≠ 9 → a ≠ 6 → a ≠ 7 → jh_I (ju_I (ju_I h1 7 ρ (upd (jh_I h1 7 ρ) 10 (nI (jT_v B sz (jT_p B sz t))))) 7 ρ (upd (jh_I (ju_I h1 7 ρ (upd (jh_I h1 7 ρ) 10 (nI (jT_v B sz (jT_p B sz t))))) 7 ρ) 11 0)) a b = jh_I h a b := fun a b z1 z2 z3 => (if_neg (fun y => z3 y.1)).trans ((if_neg (fun y => z3 y.1)).trans (g1.1 a b z1 z2))
      have hk4 : jh_I h1 9 0 8 = nI (jT_K B sz (t + 1)) := z1.2.1.2.1
      have k1 : ¬ jT_K B sz (t + 1) = 126 := fun y => c18 (hk4.trans (congrArg nI y))
      refine jr_aload rfl rfl ?_
      refine jr_getM rfl rfl rfl rfl m1 ?_
      refine jr_getZ rfl rfl ?_
      rw [show jh_I (ju_I (ju_I h1 7 ρ (upd (jh_I h1 7 ρ) 10 (nI (jT_v B sz (jT_p B sz t))))) 7 ρ (upd (jh_I (ju_I h1 7 ρ (upd (jh_I h1 7 ρ) 10 (nI (jT_v B sz (jT_p B sz t))))) 7 ρ) 11 0)) 7 ρ 11 = 0 from by rw [jg_II, jg_us]]
      refine jr_if_eq rfl (fun _ => ?_) (fun z => absurd rfl z)
      refine jr_ic rfl ?_
      refine jr_zret rfl rfl rfl (Nat.zero_le _) (Nat.zero_le _) ?_
      exact k _ _ (Or.inl ⟨rfl, t + 1, _, _, D, by show V 0 0 + V 0 1 + V 0 2 + V 0 5 + V 12 5 + V 0 6 + 1 = _; unfold jsm; omega, jLS_week (y := jT_v B sz (jT_p B sz t)) (b := 0) (t' := 1) x xb hs R2 A2 (fun a b z1 => g1.2.1 a b z1) g1.2.2.1 (fun f hf => g1.2.2.2.2 f hf) (jCF_I (jCF_I (jCF_f xF g1) (by decide)) (by decide)) (show jTS (ju_I (ju_I h1 7 ρ (upd (jh_I h1 7 ρ) 10 (nI (jT_v B sz (jT_p B sz t))))) 7 ρ (upd (jh_I (ju_I h1 7 ρ (upd (jh_I h1 7 ρ) 10 (nI (jT_v B sz (jT_p B sz t))))) 7 ρ) 11 0)) B sz T (t + 1) from z1) r0 (by decide), fun d n0 what h9 hm Qm x F kq => eM_week_g0 x F hβ k0 r0 k1 kq⟩)
    · refine jr_ic rfl ?_
      refine jr_goto rfl ?_
      refine jr_putZ rfl rfl (by first | exact Or.inl rfl | exact Or.inr rfl | assumption) ?_
      have R2 : jh_I (ju_I (ju_I h1 7 ρ (upd (jh_I h1 7 ρ) 10 (nI (jT_v B sz (jT_p B sz t))))) 7 ρ (upd (jh_I (ju_I h1 7 ρ (upd (jh_I h1 7 ρ) 10 (nI (jT_v B sz (jT_p B sz t))))) 7 ρ) 11 1)) 7 ρ = upd (upd (jh_I h 7 ρ) 10 (nI (jT_v B sz (jT_p B sz t)))) 11 (nI 1) := by
        rw [jg_II, jg_II, g1.1 7 ρ (by decide) (by decide)]
        rfl
      have A2 : ∀ a b, a ≠ 9 → a ≠ 6 → a ≠ 7 → jh_I (ju_I (ju_I h1 7 ρ (upd (jh_I h1 7 ρ) 10 (nI (jT_v B sz (jT_p B sz t))))) 7 ρ (upd (jh_I (ju_I h1 7 ρ (upd (jh_I h1 7 ρ) 10 (nI (jT_v B sz (jT_p B sz t))))) 7 ρ) 11 1)) a b = jh_I h a b := fun a b z1 z2 z3 => (if_neg (fun y => z3 y.1)).trans ((if_neg (fun y => z3 y.1)).trans (g1.1 a b z1 z2))
      have hk4 : jh_I h1 9 0 8 = nI (jT_K B sz (t + 1)) := z1.2.1.2.1
      have k1 : jT_K B sz (t + 1) = 126 := jn_eq (hk4.symm.trans c18) (Nat.lt_trans (show jT_K B sz (t + 1) < 256 from jT_k_lt) (by decide)) (by decide)
      have hn1 := jT_next (t := t + 1) z1.1 z1.2.2 (show jT_K B sz (t + 1) ≠ 0 by omega)
      refine jr_aload rfl rfl ?_
      refine jr_getM rfl rfl rfl rfl m1 ?_
      refine jr_getZ rfl rfl ?_
      rw [show jh_I (ju_I (ju_I h1 7 ρ (upd (jh_I h1 7 ρ) 10 (nI (jT_v B sz (jT_p B sz t))))) 7 ρ (upd (jh_I (ju_I h1 7 ρ (upd (jh_I h1 7 ρ) 10 (nI (jT_v B sz (jT_p B sz t))))) 7 ρ) 11 1)) 7 ρ 11 = 1 from by rw [jg_II, jg_us]]
      refine jr_if_eq rfl (fun z => absurd z (by decide)) (fun _ => ?_)
      refine jr_aload rfl rfl ?_
      refine jr_getR rfl rfl rfl rfl (Or.inl rfl) ?_
      refine jr_cv0 (mc' := 0) (ms' := 0) rfl jm_Tape_take_n jm_Tape_take_f rfl rfl rfl rfl rfl rfl rfl (Nat.zero_le _) (Nat.zero_le _) ?_
      refine ev_take (B := B) (sz := sz) (T := T) (t := t + 2) (h := (ju_I (ju_I h1 7 ρ (upd (jh_I h1 7 ρ) 10 (nI (jT_v B sz (jT_p B sz t))))) 7 ρ (upd (jh_I (ju_I h1 7 ρ (upd (jh_I h1 7 ρ) 10 (nI (jT_v B sz (jT_p B sz t))))) 7 ρ) 11 1))) z1.1 z1.2.1.1 hn1 (fun h2 g2 c2 => ?_)
      refine jr_ic rfl ?_
      refine jr_zret rfl rfl rfl (Nat.zero_le _) (Nat.zero_le _) ?_
      exact k _ _ (Or.inl ⟨rfl, t + 2, _, _, D, by show V 0 0 + V 0 1 + V 0 2 + V 0 5 + V 12 5 + V 0 6 + 1 = _; unfold jsm; omega, jLS_week (y := jT_v B sz (jT_p B sz t)) (b := 1) (t' := 2) x xb hs ((g2.1 7 ρ (by decide)).trans R2) (fun a b z1 z2 z3 => (g2.1 a b z1).trans (A2 a b z1 z2 z3)) (fun a b z1 => (g2.2.1 a b z1).trans (g1.2.1 a b z1)) (g2.2.2.1.trans g1.2.2.1) (fun f hf => (congrFun (g2.1 6 0 (by decide)) f).trans (g1.2.2.2.2 f hf)) (jCF_f (jCF_I (jCF_I (jCF_f xF g1) (by decide)) (by decide)) (jCf_G g2)) (jTS_take (show jTS (ju_I (ju_I h1 7 ρ (upd (jh_I h1 7 ρ) 10 (nI (jT_v B sz (jT_p B sz t))))) 7 ρ (upd (jh_I (ju_I h1 7 ρ (upd (jh_I h1 7 ρ) 10 (nI (jT_v B sz (jT_p B sz t))))) 7 ρ) 11 1)) B sz T (t + 1) from z1) g2 c2 hn1) r0 (by decide), fun d n0 what h9 hm Qm x F kq => eM_week_g1 x F hβ k0 r0 k1 kq⟩)
  · refine jr_if_ne rfl (fun z => absurd (by decide) z) (fun _ => ?_)
    refine jr_ic rfl ?_
    refine jr_zret rfl rfl rfl (Nat.zero_le _) (Nat.zero_le _) ?_
    exact k _ _ (Or.inr ⟨rfl, _, _, jCF_f xF r1, v1, v2, ⟨by first | exact jX_kd_n _ | decide, jT_p_le⟩, fun d n0 what h9 hm Qm x F kq => eM_week_b0 x F hβ k0 kq⟩)
  · refine jr_if_ne rfl (fun z => absurd (by decide) z) (fun _ => ?_)
    refine jr_ic rfl ?_
    refine jr_zret rfl rfl rfl (Nat.zero_le _) (Nat.zero_le _) ?_
    exact k _ _ (Or.inr ⟨rfl, _, _, jCF_f xF r1, v1, v2, ⟨by first | exact jX_kd_n _ | decide, jT_p_le⟩, fun d n0 what h9 hm Qm x F kq => eM_week_b1 x F hβ k0 r0 kq⟩)

