def jq_HD (d n0 : Nat) (Qm : Option jx_V → jx_H → Prop) (w : Int32) (hm : jx_H) : Prop := jx_W (jm_MD_e, d + 8, 0, 0, false, 1, n0) Qm 0 0 12 [some (jv_r 11 0), some (jv_i w)] [] hm
def jq_QB (d n0 : Nat) (Qm : Option jx_V → jx_H → Prop) : Option jx_V → jx_H → Prop := fun r h' => jx_W (jm_MD_e, d + 8, 0, 0, false, 1, n0) Qm 0 0 25 [some (jv_r 11 0), some (jv_i 0)] (jx_push r []) h'
def jq_PO (d n0 : Nat) (Qm : Option jx_V → jx_H → Prop) (R : Nat) (hm : jx_H) : Prop := ∀ n1, jx_W (jm_MD_behindUnit, d + 7, 0, 0, false, 1, n1) (jq_QB d n0 Qm) 0 0 13 [some (jv_r 11 0), some (jv_i (nI R))] [] hm
theorem jq_QB0 {d n0 : Nat} {Qm : Option jx_V → jx_H → Prop} {h : jx_H} (k : jq_HD d n0 Qm 0 h) : jq_QB d n0 Qm (some (jv_i 0)) h := by
  show jx_W (jm_MD_e, d + 8, 0, 0, false, 1, n0) Qm 0 0 25 [some (jv_r 11 0), some (jv_i 0)] [jv_i 0] h
  refine jr_ist1 rfl rfl ?_
  refine jr_goto rfl ?_
  exact k
theorem jq_QB1 {d n0 : Nat} {Qm : Option jx_V → jx_H → Prop} {h : jx_H} (k : jq_HD d n0 Qm 1 h) : jq_QB d n0 Qm (some (jv_i 1)) h := by
  show jx_W (jm_MD_e, d + 8, 0, 0, false, 1, n0) Qm 0 0 25 [some (jv_r 11 0), some (jv_i 0)] [jv_i 1] h
  refine jr_ist1 rfl rfl ?_
  refine jr_goto rfl ?_
  exact k
set_option maxHeartbeats 800000 in
set_option maxRecDepth 100000 in
theorem jq_uw {d n0 : Nat} {Qm : Option jx_V → jx_H → Prop} {h : jx_H} {B : Nat → Int32} {sz β t u v c : Nat} {C N : Nat → Int32} {P : List (Nat × Int32)} {i w : Nat} {s : Int32} (hx : jX h B sz β t u v c C N ((w, s) :: P) i) (hβ : β < 2) (hP : P.length < 60) (hK : 100 ≤ jT_K B sz t) (hK2 : jT_K B sz t ≤ 106) (hu : u < 90) (hv : v < 30) (hc : c < 620) (k : ∀ h' : jx_H, jX h' B sz β (t + 1) (u + 1) (v + 1) (c + 1) (upd C (620 * β + c) (nI (jT_wh (jT_K B sz t)))) (upd N (620 * β + c) 0) ((w, s) :: P) i → jX_F β h h' → jq_HD d n0 Qm 0 h')  : jq_HD d n0 Qm 1 h := by
  obtain ⟨xt, xm, xg, xb, xu, xv, xc, xC, xN, xl, xP, xi⟩ := id hx
  have xl2 : jh_I h 11 0 47 = nI (P.length + 1) := xl
  show jx_W (jm_MD_e, d + 8, 0, 0, false, 1, n0) Qm 0 0 12 [some (jv_r 11 0), some (jv_i 1)] [] h
  refine jr_aload rfl rfl ?_
  refine jr_cv0 (mc' := 0) (ms' := 0) rfl jm_MD_isGood_n jm_MD_isGood_f rfl rfl rfl rfl rfl rfl rfl (Nat.zero_le _) (Nat.zero_le _) ?_
  show jx_W (jm_MD_isGood, _, _, _, _, _, _) _ 0 0 0 [some _] [] _
  refine jr_aload rfl rfl ?_
  refine jr_getI rfl rfl ?_
  refine jr_if_ne rfl (fun z => absurd xg z) (fun _ => ?_)
  refine jr_ic rfl ?_
  refine jr_goto rfl ?_
  refine jr_zret rfl rfl rfl (Nat.zero_le _) (Nat.zero_le _) ?_
  refine jr_if_eq rfl (fun z => absurd z (by decide)) (fun _ => ?_)
  refine jr_aload rfl rfl ?_
  refine jr_getI rfl rfl ?_
  rw [xl2]
  refine jr_if_le rfl (fun z => absurd z (nI_nle (by omega) (by omega))) (fun _ => ?_)
  refine jr_iload rfl rfl ?_
  refine jr_if_eq rfl (fun z => absurd z (by decide)) (fun _ => ?_)
  refine jr_aload rfl rfl ?_
  refine jr_cv0 (mc' := 0) (ms' := 0) rfl jm_MD_unit_n jm_MD_unit_f rfl rfl rfl rfl rfl rfl rfl (Nat.zero_le _) (Nat.zero_le _) ?_
  refine eM_unit_w (d := d + 1) hx hβ hP hK hK2 (by have := (jT_wh_iff (k := jT_K B sz t)).mpr ⟨hK, hK2⟩; omega) (jT_wh_lt _) hu hv hc (fun h1 x1 f1 => ?_)
  refine jr_goto rfl ?_
  refine jr_ist1 rfl rfl ?_
  refine jr_goto rfl ?_
  exact k h1 x1 f1
set_option maxHeartbeats 800000 in
set_option maxRecDepth 100000 in
theorem jq_un {d n0 : Nat} {Qm : Option jx_V → jx_H → Prop} {h : jx_H} {B : Nat → Int32} {sz β t u v c : Nat} {C N : Nat → Int32} {P : List (Nat × Int32)} {i w : Nat} {s : Int32} (hx : jX h B sz β t u v c C N ((w, s) :: P) i) (hβ : β < 2) (hP : P.length < 60) (hK : jT_K B sz t = 2) (hu : u < 90) (hv : v < 30) (hc : c < 620) (k : ∀ h' : jx_H, jX h' B sz β (t + 1) (u + 1) (v + 1) (c + 1) (upd C (620 * β + c) 110) (upd N (620 * β + c) (nI (jT_v B sz (jT_p B sz t)))) ((w, s) :: P) i → jX_F β h h' → jq_HD d n0 Qm 0 h')  : jq_HD d n0 Qm 1 h := by
  obtain ⟨xt, xm, xg, xb, xu, xv, xc, xC, xN, xl, xP, xi⟩ := id hx
  have xl2 : jh_I h 11 0 47 = nI (P.length + 1) := xl
  show jx_W (jm_MD_e, d + 8, 0, 0, false, 1, n0) Qm 0 0 12 [some (jv_r 11 0), some (jv_i 1)] [] h
  refine jr_aload rfl rfl ?_
  refine jr_cv0 (mc' := 0) (ms' := 0) rfl jm_MD_isGood_n jm_MD_isGood_f rfl rfl rfl rfl rfl rfl rfl (Nat.zero_le _) (Nat.zero_le _) ?_
  show jx_W (jm_MD_isGood, _, _, _, _, _, _) _ 0 0 0 [some _] [] _
  refine jr_aload rfl rfl ?_
  refine jr_getI rfl rfl ?_
  refine jr_if_ne rfl (fun z => absurd xg z) (fun _ => ?_)
  refine jr_ic rfl ?_
  refine jr_goto rfl ?_
  refine jr_zret rfl rfl rfl (Nat.zero_le _) (Nat.zero_le _) ?_
  refine jr_if_eq rfl (fun z => absurd z (by decide)) (fun _ => ?_)
  refine jr_aload rfl rfl ?_
  refine jr_getI rfl rfl ?_
  rw [xl2]
  refine jr_if_le rfl (fun z => absurd z (nI_nle (by omega) (by omega))) (fun _ => ?_)
  refine jr_iload rfl rfl ?_
  refine jr_if_eq rfl (fun z => absurd z (by decide)) (fun _ => ?_)
  refine jr_aload rfl rfl ?_
  refine jr_cv0 (mc' := 0) (ms' := 0) rfl jm_MD_unit_n jm_MD_unit_f rfl rfl rfl rfl rfl rfl rfl (Nat.zero_le _) (Nat.zero_le _) ?_
  refine eM_unit_n (d := d + 1) hx hβ hP hK (by rw [hK]; rfl) hu hv hc (fun h1 x1 f1 => ?_)
  refine jr_goto rfl ?_
  refine jr_ist1 rfl rfl ?_
  refine jr_goto rfl ?_
  exact k h1 x1 f1
set_option maxHeartbeats 800000 in
set_option maxRecDepth 100000 in
theorem jq_ub {d n0 : Nat} {Qm : Option jx_V → jx_H → Prop} {h : jx_H} {B : Nat → Int32} {sz β t u v c : Nat} {C N : Nat → Int32} {P : List (Nat × Int32)} {i w : Nat} {s : Int32} (hx : jX h B sz β t u v c C N ((w, s) :: P) i) (hβ : β < 2) (hP : P.length < 60) (hK : jT_K B sz t = 40) (hi : i < 7) (hu : u < 90) (hv : v < 30) (k : ∀ h' : jx_H, jX h' B sz β (t + 1) (u + 1) (v + 1) c C N ((7, 126) :: (w, s) :: P) (i + 1) → jX_F β h h' → jq_HD d n0 Qm 1 h')  : jq_HD d n0 Qm 1 h := by
  obtain ⟨xt, xm, xg, xb, xu, xv, xc, xC, xN, xl, xP, xi⟩ := id hx
  have xl2 : jh_I h 11 0 47 = nI (P.length + 1) := xl
  show jx_W (jm_MD_e, d + 8, 0, 0, false, 1, n0) Qm 0 0 12 [some (jv_r 11 0), some (jv_i 1)] [] h
  refine jr_aload rfl rfl ?_
  refine jr_cv0 (mc' := 0) (ms' := 0) rfl jm_MD_isGood_n jm_MD_isGood_f rfl rfl rfl rfl rfl rfl rfl (Nat.zero_le _) (Nat.zero_le _) ?_
  show jx_W (jm_MD_isGood, _, _, _, _, _, _) _ 0 0 0 [some _] [] _
  refine jr_aload rfl rfl ?_
  refine jr_getI rfl rfl ?_
  refine jr_if_ne rfl (fun z => absurd xg z) (fun _ => ?_)
  refine jr_ic rfl ?_
  refine jr_goto rfl ?_
  refine jr_zret rfl rfl rfl (Nat.zero_le _) (Nat.zero_le _) ?_
  refine jr_if_eq rfl (fun z => absurd z (by decide)) (fun _ => ?_)
  refine jr_aload rfl rfl ?_
  refine jr_getI rfl rfl ?_
  rw [xl2]
  refine jr_if_le rfl (fun z => absurd z (nI_nle (by omega) (by omega))) (fun _ => ?_)
  refine jr_iload rfl rfl ?_
  refine jr_if_eq rfl (fun z => absurd z (by decide)) (fun _ => ?_)
  refine jr_aload rfl rfl ?_
  refine jr_cv0 (mc' := 0) (ms' := 0) rfl jm_MD_unit_n jm_MD_unit_f rfl rfl rfl rfl rfl rfl rfl (Nat.zero_le _) (Nat.zero_le _) ?_
  refine eM_unit_b (d := d + 1) hx hβ hP hK (by rw [hK]; rfl) hi hu hv (fun h1 x1 f1 => ?_)
  refine jr_goto rfl ?_
  refine jr_ist1 rfl rfl ?_
  refine jr_goto rfl ?_
  exact k h1 x1 f1
set_option maxHeartbeats 800000 in
set_option maxRecDepth 100000 in
theorem jq_ut {d n0 : Nat} {Qm : Option jx_V → jx_H → Prop} {h : jx_H} {B : Nat → Int32} {sz β t u v c : Nat} {C N : Nat → Int32} {P : List (Nat × Int32)} {i w : Nat} {s : Int32} (hx : jX h B sz β t u v c C N ((w, s) :: P) i) (hβ : β < 2) (hP : P.length < 60) (hK : jT_K B sz t = 128) (hw : w ≤ 3 ∨ 7 ≤ w) (hi : i < 7) (hu : u ≤ 90) (hv : v ≤ 30) (k : ∀ h' : jx_H, jX h' B sz β (t + 1) u v c C N ((3, 126) :: (w, s) :: P) (i + 1) → jX_F β h h' → jq_HD d n0 Qm 1 h')  : jq_HD d n0 Qm 1 h := by
  obtain ⟨xt, xm, xg, xb, xu, xv, xc, xC, xN, xl, xP, xi⟩ := id hx
  have xl2 : jh_I h 11 0 47 = nI (P.length + 1) := xl
  show jx_W (jm_MD_e, d + 8, 0, 0, false, 1, n0) Qm 0 0 12 [some (jv_r 11 0), some (jv_i 1)] [] h
  refine jr_aload rfl rfl ?_
  refine jr_cv0 (mc' := 0) (ms' := 0) rfl jm_MD_isGood_n jm_MD_isGood_f rfl rfl rfl rfl rfl rfl rfl (Nat.zero_le _) (Nat.zero_le _) ?_
  show jx_W (jm_MD_isGood, _, _, _, _, _, _) _ 0 0 0 [some _] [] _
  refine jr_aload rfl rfl ?_
  refine jr_getI rfl rfl ?_
  refine jr_if_ne rfl (fun z => absurd xg z) (fun _ => ?_)
  refine jr_ic rfl ?_
  refine jr_goto rfl ?_
  refine jr_zret rfl rfl rfl (Nat.zero_le _) (Nat.zero_le _) ?_
  refine jr_if_eq rfl (fun z => absurd z (by decide)) (fun _ => ?_)
  refine jr_aload rfl rfl ?_
  refine jr_getI rfl rfl ?_
  rw [xl2]
  refine jr_if_le rfl (fun z => absurd z (nI_nle (by omega) (by omega))) (fun _ => ?_)
  refine jr_iload rfl rfl ?_
  refine jr_if_eq rfl (fun z => absurd z (by decide)) (fun _ => ?_)
  refine jr_aload rfl rfl ?_
  refine jr_cv0 (mc' := 0) (ms' := 0) rfl jm_MD_unit_n jm_MD_unit_f rfl rfl rfl rfl rfl rfl rfl (Nat.zero_le _) (Nat.zero_le _) ?_
  refine eM_unit_not (d := d + 1) hx hβ hP hK (by rw [hK]; rfl) hw hi hu hv (fun h1 x1 f1 => ?_)
  refine jr_goto rfl ?_
  refine jr_ist1 rfl rfl ?_
  refine jr_goto rfl ?_
  exact k h1 x1 f1
set_option maxHeartbeats 800000 in
set_option maxRecDepth 100000 in
theorem jq_ur {d n0 : Nat} {Qm : Option jx_V → jx_H → Prop} {h : jx_H} {B : Nat → Int32} {sz β t u v c : Nat} {C N : Nat → Int32} {P : List (Nat × Int32)} {i w : Nat} {s : Int32} (hx : jX h B sz β t u v c C N ((w, s) :: P) i) (hβ : β < 2) (hP : P.length < 60) (hR : (jT_wh (jT_K B sz t) = 0 ∧ jT_K B sz t ≠ 2 ∧ jT_K B sz t ≠ 40 ∧ (jT_K B sz t ≠ 128 ∨ (3 < w ∧ w < 7))) ∨ (jT_K B sz t = 40 ∧ i = 7) ∨ ((jT_wh (jT_K B sz t) ≠ 0 ∨ jT_K B sz t = 2 ∨ jT_K B sz t = 40) ∧ jT_K B sz t ≠ 128 ∧ (u = 90 ∨ v = 30)) ∨ (jT_K B sz t = 128 ∧ (w ≤ 3 ∨ 7 ≤ w) ∧ i = 7)) (hu : u ≤ 90) (hv : v ≤ 30) (hi : i ≤ 7) (k : ∀ h' : jx_H, jX_ft h h' (jX_kd (jT_K B sz t)) (jT_p B sz t) → jq_HD d n0 Qm 1 h')  : jq_HD d n0 Qm 1 h := by
  obtain ⟨xt, xm, xg, xb, xu, xv, xc, xC, xN, xl, xP, xi⟩ := id hx
  have xl2 : jh_I h 11 0 47 = nI (P.length + 1) := xl
  show jx_W (jm_MD_e, d + 8, 0, 0, false, 1, n0) Qm 0 0 12 [some (jv_r 11 0), some (jv_i 1)] [] h
  refine jr_aload rfl rfl ?_
  refine jr_cv0 (mc' := 0) (ms' := 0) rfl jm_MD_isGood_n jm_MD_isGood_f rfl rfl rfl rfl rfl rfl rfl (Nat.zero_le _) (Nat.zero_le _) ?_
  show jx_W (jm_MD_isGood, _, _, _, _, _, _) _ 0 0 0 [some _] [] _
  refine jr_aload rfl rfl ?_
  refine jr_getI rfl rfl ?_
  refine jr_if_ne rfl (fun z => absurd xg z) (fun _ => ?_)
  refine jr_ic rfl ?_
  refine jr_goto rfl ?_
  refine jr_zret rfl rfl rfl (Nat.zero_le _) (Nat.zero_le _) ?_
  refine jr_if_eq rfl (fun z => absurd z (by decide)) (fun _ => ?_)
  refine jr_aload rfl rfl ?_
  refine jr_getI rfl rfl ?_
  rw [xl2]
  refine jr_if_le rfl (fun z => absurd z (nI_nle (by omega) (by omega))) (fun _ => ?_)
  refine jr_iload rfl rfl ?_
  refine jr_if_eq rfl (fun z => absurd z (by decide)) (fun _ => ?_)
  refine jr_aload rfl rfl ?_
  refine jr_cv0 (mc' := 0) (ms' := 0) rfl jm_MD_unit_n jm_MD_unit_f rfl rfl rfl rfl rfl rfl rfl (Nat.zero_le _) (Nat.zero_le _) ?_
  refine eM_unit_r (d := d + 1) hx hβ hP hR hu hv hi (fun h1 g1 => ?_)
  refine jr_goto rfl ?_
  refine jr_ist1 rfl rfl ?_
  refine jr_goto rfl ?_
  exact k h1 g1
set_option maxHeartbeats 800000 in
set_option maxRecDepth 100000 in
theorem jq_b {d n0 : Nat} {Qm : Option jx_V → jx_H → Prop} {h : jx_H} {B : Nat → Int32} {sz β t u v c : Nat} {C N : Nat → Int32} {P : List (Nat × Int32)} {i w : Nat} {s : Int32} (hx : jX h B sz β t u v c C N ((w, s) :: P) i) (hβ : β < 2) (hP : P.length < 60) (hb : jp_b ((w, s) :: P)) (k1 : jT_rk (jT_K B sz t) = 4 → jp_cmp ((w, s) :: P) = true → ∀ h', jX_ft h h' (jX_kd (jT_K B sz t)) (jT_p B sz t) → jq_HD d n0 Qm 1 h') (k2 : (jT_rk (jT_K B sz t) = 4 → jp_cmp ((w, s) :: P) = false) → jq_PO d n0 Qm (jT_rk (jT_K B sz t)) h)  : jq_HD d n0 Qm 0 h := by
  obtain ⟨xt, xm, xg, xb, xu, xv, xc, xC, xN, xl, xP, xi⟩ := id hx
  have xl2 : jh_I h 11 0 47 = nI (P.length + 1) := xl
  show jx_W (jm_MD_e, d + 8, 0, 0, false, 1, n0) Qm 0 0 12 [some (jv_r 11 0), some (jv_i 0)] [] h
  refine jr_aload rfl rfl ?_
  refine jr_cv0 (mc' := 0) (ms' := 0) rfl jm_MD_isGood_n jm_MD_isGood_f rfl rfl rfl rfl rfl rfl rfl (Nat.zero_le _) (Nat.zero_le _) ?_
  show jx_W (jm_MD_isGood, _, _, _, _, _, _) _ 0 0 0 [some _] [] _
  refine jr_aload rfl rfl ?_
  refine jr_getI rfl rfl ?_
  refine jr_if_ne rfl (fun z => absurd xg z) (fun _ => ?_)
  refine jr_ic rfl ?_
  refine jr_goto rfl ?_
  refine jr_zret rfl rfl rfl (Nat.zero_le _) (Nat.zero_le _) ?_
  refine jr_if_eq rfl (fun z => absurd z (by decide)) (fun _ => ?_)
  refine jr_aload rfl rfl ?_
  refine jr_getI rfl rfl ?_
  rw [xl2]
  refine jr_if_le rfl (fun z => absurd z (nI_nle (by omega) (by omega))) (fun _ => ?_)
  refine jr_iload rfl rfl ?_
  refine jr_if_eq rfl (fun _ => ?_) (fun z => absurd (by decide) z)
  refine jr_aload rfl rfl ?_
  refine jr_cv0 (mc' := 0) (ms' := 0) rfl jm_MD_behindUnit_n jm_MD_behindUnit_f rfl rfl rfl rfl rfl rfl rfl (Nat.zero_le _) (Nat.zero_le _) ?_
  refine eM_bu (d := d + 1) hx hβ hP hb (fun e1 e2 h1 g1 => ?_) (fun e n1 => k2 e n1)
  refine jr_ist1 rfl rfl ?_
  refine jr_goto rfl ?_
  exact k1 e1 e2 h1 g1
theorem jq_pop {d n0 : Nat} {Qm : Option jx_V → jx_H → Prop} {h : jx_H} {B : Nat → Int32} {sz β t u v c : Nat} {C N : Nat → Int32} {P : List (Nat × Int32)} {i w : Nat} {s : Int32} (hx : jX h B sz β t u v c C N ((w, s) :: P) i) (hβ : β < 2) (hP : P.length < 60) (hw6 : w ≤ 6) (hw3 : w ≠ 3) (hr : jT_rk (jT_K B sz t) ≤ w) (hc : c < 620) (k : ∀ h' : jx_H, jX h' B sz β t u v (c + 1) (upd C (620 * β + c) s) (upd N (620 * β + c) 0) P i → jX_F β h h' → jq_PO d n0 Qm (jT_rk (jT_K B sz t)) h') : jq_PO d n0 Qm (jT_rk (jT_K B sz t)) h := fun n1 => eM_pop (d := d + 1) hx hβ hP hw6 hw3 hr hc (fun h' x f => k h' x f n1)
theorem jq_popn {d n0 : Nat} {Qm : Option jx_V → jx_H → Prop} {h : jx_H} {B : Nat → Int32} {sz β t u v c : Nat} {C N : Nat → Int32} {P : List (Nat × Int32)} {i w : Nat} {s : Int32} (hx : jX h B sz β t u v c C N ((w, s) :: P) i) (hβ : β < 2) (hP : P.length < 60) (hw3 : w = 3) (hi1 : 1 ≤ i) (hr : jT_rk (jT_K B sz t) ≤ w) (hc : c < 620) (k : ∀ h' : jx_H, jX h' B sz β t u v (c + 1) (upd C (620 * β + c) s) (upd N (620 * β + c) 0) P (i - 1) → jX_F β h h' → jq_PO d n0 Qm (jT_rk (jT_K B sz t)) h') : jq_PO d n0 Qm (jT_rk (jT_K B sz t)) h := fun n1 => eM_popn (d := d + 1) hx hβ hP hw3 hi1 hr hc (fun h' x f => k h' x f n1)
theorem jq_push {d n0 : Nat} {Qm : Option jx_V → jx_H → Prop} {h : jx_H} {B : Nat → Int32} {sz β t u v c : Nat} {C N : Nat → Int32} {P : List (Nat × Int32)} {i w : Nat} {s : Int32} (hx : jX h B sz β t u v c C N ((w, s) :: P) i) (hβ : β < 2) (hP : P.length < 60) (hw : 7 ≤ w ∨ w < jT_rk (jT_K B sz t)) (hr : 0 < jT_rk (jT_K B sz t)) (k : ∀ h' : jx_H, jX h' B sz β (t + 1) u v c C N ((jT_rk (jT_K B sz t), jT_sgn (jT_K B sz t)) :: (w, s) :: P) i → jX_F β h h' → jq_HD d n0 Qm 1 h') : jq_PO d n0 Qm (jT_rk (jT_K B sz t)) h := fun n1 => eM_push (d := d + 1) hx hβ hP hw hr (fun h' x f => jq_QB1 (k h' x f))
theorem jq_close {d n0 : Nat} {Qm : Option jx_V → jx_H → Prop} {h : jx_H} {B : Nat → Int32} {sz β t u v c : Nat} {C N : Nat → Int32} {P : List (Nat × Int32)} {i w : Nat} {s : Int32} (hx : jX h B sz β t u v c C N ((w, s) :: P) i) (hβ : β < 2) (hP : P.length < 60) (hw7 : w = 7) (hi1 : 1 ≤ i) (hr : jT_rk (jT_K B sz t) = 0) (hK : jT_K B sz t = 41) (k : ∀ h' : jx_H, jX h' B sz β (t + 1) u v c C N P (i - 1) → jX_F β h h' → jq_HD d n0 Qm 0 h') : jq_PO d n0 Qm (jT_rk (jT_K B sz t)) h := fun n1 => eM_close (d := d + 1) hx hβ hP hw7 hi1 hr hK (fun h' x f => jq_QB0 (k h' x f))
theorem jq_close_r {d n0 : Nat} {Qm : Option jx_V → jx_H → Prop} {h : jx_H} {B : Nat → Int32} {sz β t u v c : Nat} {C N : Nat → Int32} {P : List (Nat × Int32)} {i w : Nat} {s : Int32} (hx : jX h B sz β t u v c C N ((w, s) :: P) i) (hβ : β < 2) (hP : P.length < 60) (hw7 : w = 7) (hi1 : 1 ≤ i) (hr : jT_rk (jT_K B sz t) = 0) (hK : ¬ jT_K B sz t = 41) (k : ∀ h' : jx_H, jX_F β h h' → (jh_I h' 93 0 = jh_I h 93 0 ∧ jh_I h' 94 0 = jh_I h 94 0) → jh_I h' 11 0 4 = jX_kd (jT_K B sz t) → jPl h' (jT_p B sz t) → jq_HD d n0 Qm 0 h') : jq_PO d n0 Qm (jT_rk (jT_K B sz t)) h := fun n1 => eM_close_r (d := d + 1) hx hβ hP hw7 hi1 hr hK (fun h' f g e1 e2 => jq_QB0 (k h' f g e1 e2))
theorem jq_end {d n0 : Nat} {Qm : Option jx_V → jx_H → Prop} {h : jx_H} {B : Nat → Int32} {sz β t u v c : Nat} {C N : Nat → Int32} {P : List (Nat × Int32)} {i w : Nat} {s : Int32} (hx : jX h B sz β t u v c C N ((w, s) :: P) i) (hβ : β < 2) (hP : P.length < 60) (hw8 : w = 8) (hr : jT_rk (jT_K B sz t) = 0) (k : ∀ h' : jx_H, jX h' B sz β t u v c C N P i → jX_F β h h' → jq_HD d n0 Qm 0 h') : jq_PO d n0 Qm (jT_rk (jT_K B sz t)) h := fun n1 => eM_end (d := d + 1) hx hβ hP hw8 hr (fun h' x f => jq_QB0 (k h' x f))
