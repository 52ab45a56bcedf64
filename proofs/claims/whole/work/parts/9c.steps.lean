theorem jX_kd_n (k : Nat) : ¬ jX_kd k = 0 := by
  unfold jX_kd
  split <;> decide
set_option maxHeartbeats 800000 in
set_option maxRecDepth 100000 in
theorem eM_must_y {d : Nat} {h : jx_H} {Q : Option jx_V → jx_H → Prop} {B : Nat → Int32} {sz t : Nat} {x : Int32} (xt : jX_t h B sz) (xm : jT_mc h B sz t) (xg : jh_I h 11 0 4 = 0) (hx : ¬ x = 0) (k : ∀ h', jT_MG h h' → jT_mc h' B sz (t + 1) → Q none h')  : jx_Ev jm_MD_must (d + 5) 0 0 false 1 [jv_r 11 0, jv_i x] h Q := by
  show jx_W (jm_MD_must, d + 5, 0, 0, false, 1, _) Q 0 0 0 [some (jv_r 11 0), some (jv_i x)] [] _
  refine jr_aload rfl rfl ?_
  refine jr_cv0 (mc' := 0) (ms' := 0) rfl jm_MD_isGood_n jm_MD_isGood_f rfl rfl rfl rfl rfl rfl rfl (Nat.zero_le _) (Nat.zero_le _) ?_
  show jx_W (jm_MD_isGood, _, _, _, _, _, _) _ 0 0 0 [some _] [] _
  refine jr_aload rfl rfl ?_
  refine jr_getI rfl rfl ?_
  refine jr_if_ne rfl (fun z => absurd (by first | exact xg | exact (g1.2.2.2 4 (by decide)).trans xg) z) (fun _ => ?_)
  refine jr_ic rfl ?_
  refine jr_goto rfl ?_
  refine jr_zret rfl rfl rfl (Nat.zero_le _) (Nat.zero_le _) ?_
  refine jr_if_ne rfl (fun _ => ?_) (fun z => absurd z (by decide))
  refine jr_iload rfl rfl ?_
  refine jr_if_eq rfl (fun z => absurd z hx) (fun _ => ?_)
  refine jr_aload rfl rfl ?_
  refine jr_cv0 (mc' := 0) (ms' := 0) rfl jm_MD_goOn_n jm_MD_goOn_f rfl rfl rfl rfl rfl rfl rfl (Nat.zero_le _) (Nat.zero_le _) ?_
  refine eM_goOn (B := B) (sz := sz) (t := t + 1) xt.1 xt.2.1 xt.2.2.1 xm.2.1 (fun h1 g1 m1 => ?_)
  refine jr_goto rfl ?_
  refine jr_vret rfl rfl (Nat.zero_le _) (Nat.zero_le _) ?_
  exact k h1 g1 m1

set_option maxHeartbeats 800000 in
set_option maxRecDepth 100000 in
theorem eM_must_n {d : Nat} {h : jx_H} {Q : Option jx_V → jx_H → Prop} {B : Nat → Int32} {sz t : Nat} {x : Int32} (xt : jX_t h B sz) (xm : jT_mc h B sz t) (xg : jh_I h 11 0 4 = 0) (hx : x = 0) (k : ∀ h', jX_ft h h' (jX_kd (jT_K B sz t)) (jT_p B sz t) → Q none h')  : jx_Ev jm_MD_must (d + 5) 0 0 false 1 [jv_r 11 0, jv_i x] h Q := by
  show jx_W (jm_MD_must, d + 5, 0, 0, false, 1, _) Q 0 0 0 [some (jv_r 11 0), some (jv_i x)] [] _
  refine jr_aload rfl rfl ?_
  refine jr_cv0 (mc' := 0) (ms' := 0) rfl jm_MD_isGood_n jm_MD_isGood_f rfl rfl rfl rfl rfl rfl rfl (Nat.zero_le _) (Nat.zero_le _) ?_
  show jx_W (jm_MD_isGood, _, _, _, _, _, _) _ 0 0 0 [some _] [] _
  refine jr_aload rfl rfl ?_
  refine jr_getI rfl rfl ?_
  refine jr_if_ne rfl (fun z => absurd (by first | exact xg | exact (g1.2.2.2 4 (by decide)).trans xg) z) (fun _ => ?_)
  refine jr_ic rfl ?_
  refine jr_goto rfl ?_
  refine jr_zret rfl rfl rfl (Nat.zero_le _) (Nat.zero_le _) ?_
  refine jr_if_ne rfl (fun _ => ?_) (fun z => absurd z (by decide))
  refine jr_iload rfl rfl ?_
  refine jr_if_eq rfl (fun _ => ?_) (fun z => absurd hx z)
  refine jr_aload rfl rfl ?_
  refine jr_cv0 (mc' := 0) (ms' := 0) rfl jm_MD_misplaced_n jm_MD_misplaced_f rfl rfl rfl rfl rfl rfl rfl (Nat.zero_le _) (Nat.zero_le _) ?_
  refine eM_misplaced (B := B) (sz := sz) (t := t) xg xm (fun h1 g1 => ?_)
  refine jr_vret rfl rfl (Nat.zero_le _) (Nat.zero_le _) ?_
  exact k h1 g1

set_option maxHeartbeats 800000 in
set_option maxRecDepth 100000 in
theorem eM_must_b {d : Nat} {h : jx_H} {Q : Option jx_V → jx_H → Prop} {x : Int32} (hb : ¬ jh_I h 11 0 4 = 0) (k : Q none h)  : jx_Ev jm_MD_must (d + 5) 0 0 false 1 [jv_r 11 0, jv_i x] h Q := by
  show jx_W (jm_MD_must, d + 5, 0, 0, false, 1, _) Q 0 0 0 [some (jv_r 11 0), some (jv_i x)] [] _
  refine jr_aload rfl rfl ?_
  refine jr_cv0 (mc' := 0) (ms' := 0) rfl jm_MD_isGood_n jm_MD_isGood_f rfl rfl rfl rfl rfl rfl rfl (Nat.zero_le _) (Nat.zero_le _) ?_
  show jx_W (jm_MD_isGood, _, _, _, _, _, _) _ 0 0 0 [some _] [] _
  refine jr_aload rfl rfl ?_
  refine jr_getI rfl rfl ?_
  refine jr_if_ne rfl (fun _ => ?_) (fun z => absurd z hb)
  refine jr_ic rfl ?_
  refine jr_zret rfl rfl rfl (Nat.zero_le _) (Nat.zero_le _) ?_
  refine jr_if_ne rfl (fun z => absurd (by decide) z) (fun _ => ?_)
  refine jr_vret rfl rfl (Nat.zero_le _) (Nat.zero_le _) ?_
  exact k

set_option maxHeartbeats 800000 in
set_option maxRecDepth 100000 in
theorem eM_num_y {d : Nat} {h : jx_H} {Q : Option jx_V → jx_H → Prop} {B : Nat → Int32} {sz t : Nat} {lo hi : Nat}  (xt : jX_t h B sz) (xm : jT_mc h B sz t) (xg : jh_I h 11 0 4 = 0) (hlo : lo < 1000) (hhi : hi < 1000) (hK : jT_K B sz t = 2) (h1 : lo ≤ jT_v B sz (jT_p B sz t)) (h2 : jT_v B sz (jT_p B sz t) ≤ hi) (k : ∀ h', jT_MG h h' → jT_mc h' B sz (t + 1) → Q (some (jv_i (nI (jT_v B sz (jT_p B sz t))))) h')  : jx_Ev jm_MD_numeral (d + 5) 0 0 false 1 [jv_r 11 0, jv_i (nI lo), jv_i (nI hi)] h Q := by
  show jx_W (jm_MD_numeral, d + 5, 0, 0, false, 1, _) Q 0 0 0 [some (jv_r 11 0), some (jv_i (nI lo)), some (jv_i (nI hi)), none] [] _
  have hvl := jT_v_lt (B := B) (sz := sz) (t := t) hK
  refine jr_aload rfl rfl ?_
  refine jr_cv0 (mc' := 0) (ms' := 0) rfl jm_MD_isGood_n jm_MD_isGood_f rfl rfl rfl rfl rfl rfl rfl (Nat.zero_le _) (Nat.zero_le _) ?_
  show jx_W (jm_MD_isGood, _, _, _, _, _, _) _ 0 0 0 [some _] [] _
  refine jr_aload rfl rfl ?_
  refine jr_getI rfl rfl ?_
  refine jr_if_ne rfl (fun z => absurd (by first | exact xg | exact (g1.2.2.2 4 (by decide)).trans xg) z) (fun _ => ?_)
  refine jr_ic rfl ?_
  refine jr_goto rfl ?_
  refine jr_zret rfl rfl rfl (Nat.zero_le _) (Nat.zero_le _) ?_
  refine jr_if_ne rfl (fun _ => ?_) (fun z => absurd z (by decide))
  refine jr_aload rfl rfl ?_
  refine jr_getI rfl rfl ?_
  refine jr_ic rfl ?_
  rw [xm.2.2.1]
  refine jr_icmp_eq rfl (fun _ => ?_) (fun z => absurd (jT_mt4.mpr hK) z)
  refine jr_aload rfl rfl ?_
  refine jr_cv0 (mc' := 0) (ms' := 0) rfl jm_MD_isGood_n jm_MD_isGood_f rfl rfl rfl rfl rfl rfl rfl (Nat.zero_le _) (Nat.zero_le _) ?_
  show jx_W (jm_MD_isGood, _, _, _, _, _, _) _ 0 0 0 [some _] [] _
  refine jr_aload rfl rfl ?_
  refine jr_getI rfl rfl ?_
  refine jr_if_ne rfl (fun z => absurd (by first | exact xg | exact (g1.2.2.2 4 (by decide)).trans xg) z) (fun _ => ?_)
  refine jr_ic rfl ?_
  refine jr_goto rfl ?_
  refine jr_zret rfl rfl rfl (Nat.zero_le _) (Nat.zero_le _) ?_
  refine jr_if_eq rfl (fun z => absurd z (by decide)) (fun _ => ?_)
  refine jr_aload rfl rfl ?_
  refine jr_getI rfl rfl ?_
  skip
  refine jr_iload rfl rfl ?_
  rw [show jh_I h 11 0 9 = nI (jT_v B sz (jT_p B sz t)) from xm.2.2.2.1 hK]
  refine jr_icmp_lt rfl (fun z => absurd z (nI_nlt h1 (by omega))) (fun _ => ?_)
  refine jr_aload rfl rfl ?_
  refine jr_getI rfl rfl ?_
  refine jr_iload rfl rfl ?_
  rw [show jh_I h 11 0 9 = nI (jT_v B sz (jT_p B sz t)) from xm.2.2.2.1 hK]
  refine jr_icmp_le rfl (fun _ => ?_) (fun z => absurd (nI_le h2 (by omega)) z)
  refine jr_aload rfl rfl ?_
  refine jr_getI rfl rfl ?_
  rw [show jh_I h 11 0 9 = nI (jT_v B sz (jT_p B sz t)) from xm.2.2.2.1 hK]
  refine jr_ist3 rfl rfl ?_
  refine jr_aload rfl rfl ?_
  refine jr_cv0 (mc' := 0) (ms' := 0) rfl jm_MD_isGood_n jm_MD_isGood_f rfl rfl rfl rfl rfl rfl rfl (Nat.zero_le _) (Nat.zero_le _) ?_
  show jx_W (jm_MD_isGood, _, _, _, _, _, _) _ 0 0 0 [some _] [] _
  refine jr_aload rfl rfl ?_
  refine jr_getI rfl rfl ?_
  refine jr_if_ne rfl (fun z => absurd (by first | exact xg | exact (g1.2.2.2 4 (by decide)).trans xg) z) (fun _ => ?_)
  refine jr_ic rfl ?_
  refine jr_goto rfl ?_
  refine jr_zret rfl rfl rfl (Nat.zero_le _) (Nat.zero_le _) ?_
  refine jr_if_eq rfl (fun z => absurd z (by decide)) (fun _ => ?_)
  refine jr_aload rfl rfl ?_
  refine jr_cv0 (mc' := 0) (ms' := 0) rfl jm_MD_goOn_n jm_MD_goOn_f rfl rfl rfl rfl rfl rfl rfl (Nat.zero_le _) (Nat.zero_le _) ?_
  refine eM_goOn (B := B) (sz := sz) (t := t + 1) xt.1 xt.2.1 xt.2.2.1 xm.2.1 (fun h1 g1 m1 => ?_)
  refine jr_aload rfl rfl ?_
  refine jr_cv0 (mc' := 0) (ms' := 0) rfl jm_MD_isGood_n jm_MD_isGood_f rfl rfl rfl rfl rfl rfl rfl (Nat.zero_le _) (Nat.zero_le _) ?_
  show jx_W (jm_MD_isGood, _, _, _, _, _, _) _ 0 0 0 [some _] [] _
  refine jr_aload rfl rfl ?_
  refine jr_getI rfl rfl ?_
  refine jr_if_ne rfl (fun z => absurd (by first | exact xg | exact (g1.2.2.2 4 (by decide)).trans xg) z) (fun _ => ?_)
  refine jr_ic rfl ?_
  refine jr_goto rfl ?_
  refine jr_zret rfl rfl rfl (Nat.zero_le _) (Nat.zero_le _) ?_
  refine jr_if_eq rfl (fun z => absurd z (by decide)) (fun _ => ?_)
  refine jr_iload rfl rfl ?_
  refine jr_goto rfl ?_
  refine jr_iret rfl rfl (Nat.zero_le _) (Nat.zero_le _) ?_
  exact k _ g1 m1

set_option maxHeartbeats 800000 in
set_option maxRecDepth 100000 in
theorem eM_num_n {d : Nat} {h : jx_H} {Q : Option jx_V → jx_H → Prop} {B : Nat → Int32} {sz t : Nat} {lo hi : Nat}  (xt : jX_t h B sz) (xm : jT_mc h B sz t) (xg : jh_I h 11 0 4 = 0) (hK : ¬ jT_K B sz t = 2) (k : ∀ h', jX_ft h h' (jX_kd (jT_K B sz t)) (jT_p B sz t) → Q (some (jv_i (nI lo))) h')  : jx_Ev jm_MD_numeral (d + 5) 0 0 false 1 [jv_r 11 0, jv_i (nI lo), jv_i (nI hi)] h Q := by
  show jx_W (jm_MD_numeral, d + 5, 0, 0, false, 1, _) Q 0 0 0 [some (jv_r 11 0), some (jv_i (nI lo)), some (jv_i (nI hi)), none] [] _
  refine jr_aload rfl rfl ?_
  refine jr_cv0 (mc' := 0) (ms' := 0) rfl jm_MD_isGood_n jm_MD_isGood_f rfl rfl rfl rfl rfl rfl rfl (Nat.zero_le _) (Nat.zero_le _) ?_
  show jx_W (jm_MD_isGood, _, _, _, _, _, _) _ 0 0 0 [some _] [] _
  refine jr_aload rfl rfl ?_
  refine jr_getI rfl rfl ?_
  refine jr_if_ne rfl (fun z => absurd (by first | exact xg | exact (g1.2.2.2 4 (by decide)).trans xg) z) (fun _ => ?_)
  refine jr_ic rfl ?_
  refine jr_goto rfl ?_
  refine jr_zret rfl rfl rfl (Nat.zero_le _) (Nat.zero_le _) ?_
  refine jr_if_ne rfl (fun _ => ?_) (fun z => absurd z (by decide))
  refine jr_aload rfl rfl ?_
  refine jr_getI rfl rfl ?_
  refine jr_ic rfl ?_
  rw [xm.2.2.1]
  refine jr_icmp_eq rfl (fun z => absurd z (fun y => hK (jT_mt4.mp y))) (fun _ => ?_)
  refine jr_aload rfl rfl ?_
  refine jr_cv0 (mc' := 0) (ms' := 0) rfl jm_MD_misplaced_n jm_MD_misplaced_f rfl rfl rfl rfl rfl rfl rfl (Nat.zero_le _) (Nat.zero_le _) ?_
  refine eM_misplaced (B := B) (sz := sz) (t := t) xg xm (fun h1 g1 => ?_)
  refine jr_aload rfl rfl ?_
  refine jr_cv0 (mc' := 0) (ms' := 0) rfl jm_MD_isGood_n jm_MD_isGood_f rfl rfl rfl rfl rfl rfl rfl (Nat.zero_le _) (Nat.zero_le _) ?_
  show jx_W (jm_MD_isGood, _, _, _, _, _, _) _ 0 0 0 [some _] [] _
  refine jr_aload rfl rfl ?_
  refine jr_getI rfl rfl ?_
  refine jr_if_ne rfl (fun _ => ?_) (fun z => absurd z (by rw [g1.2.2.2.1]; exact jX_kd_n _))
  refine jr_ic rfl ?_
  refine jr_zret rfl rfl rfl (Nat.zero_le _) (Nat.zero_le _) ?_
  refine jr_if_eq rfl (fun _ => ?_) (fun z => absurd (by decide) z)
  refine jr_aload rfl rfl ?_
  refine jr_getI rfl rfl ?_
  refine jr_ist3 rfl rfl ?_
  refine jr_aload rfl rfl ?_
  refine jr_cv0 (mc' := 0) (ms' := 0) rfl jm_MD_isGood_n jm_MD_isGood_f rfl rfl rfl rfl rfl rfl rfl (Nat.zero_le _) (Nat.zero_le _) ?_
  show jx_W (jm_MD_isGood, _, _, _, _, _, _) _ 0 0 0 [some _] [] _
  refine jr_aload rfl rfl ?_
  refine jr_getI rfl rfl ?_
  refine jr_if_ne rfl (fun _ => ?_) (fun z => absurd z (by rw [g1.2.2.2.1]; exact jX_kd_n _))
  refine jr_ic rfl ?_
  refine jr_zret rfl rfl rfl (Nat.zero_le _) (Nat.zero_le _) ?_
  refine jr_if_eq rfl (fun _ => ?_) (fun z => absurd (by decide) z)
  refine jr_aload rfl rfl ?_
  refine jr_cv0 (mc' := 0) (ms' := 0) rfl jm_MD_isGood_n jm_MD_isGood_f rfl rfl rfl rfl rfl rfl rfl (Nat.zero_le _) (Nat.zero_le _) ?_
  show jx_W (jm_MD_isGood, _, _, _, _, _, _) _ 0 0 0 [some _] [] _
  refine jr_aload rfl rfl ?_
  refine jr_getI rfl rfl ?_
  refine jr_if_ne rfl (fun _ => ?_) (fun z => absurd z (by rw [g1.2.2.2.1]; exact jX_kd_n _))
  refine jr_ic rfl ?_
  refine jr_zret rfl rfl rfl (Nat.zero_le _) (Nat.zero_le _) ?_
  refine jr_if_eq rfl (fun _ => ?_) (fun z => absurd (by decide) z)
  refine jr_iload rfl rfl ?_
  refine jr_iret rfl rfl (Nat.zero_le _) (Nat.zero_le _) ?_
  exact k h1 g1

set_option maxHeartbeats 800000 in
set_option maxRecDepth 100000 in
theorem eM_num_r {d : Nat} {h : jx_H} {Q : Option jx_V → jx_H → Prop} {B : Nat → Int32} {sz t : Nat} {lo hi : Nat}  (xt : jX_t h B sz) (xm : jT_mc h B sz t) (xg : jh_I h 11 0 4 = 0) (hlo : lo < 1000) (hhi : hi < 1000) (hK : jT_K B sz t = 2) (hr : jT_v B sz (jT_p B sz t) < lo ∨ hi < jT_v B sz (jT_p B sz t)) (k : ∀ h', jX_ft h h' 4 (jT_p B sz t) → Q (some (jv_i (nI lo))) h')  : jx_Ev jm_MD_numeral (d + 5) 0 0 false 1 [jv_r 11 0, jv_i (nI lo), jv_i (nI hi)] h Q := by
  show jx_W (jm_MD_numeral, d + 5, 0, 0, false, 1, _) Q 0 0 0 [some (jv_r 11 0), some (jv_i (nI lo)), some (jv_i (nI hi)), none] [] _
  have hvl := jT_v_lt (B := B) (sz := sz) (t := t) hK
  refine jr_aload rfl rfl ?_
  refine jr_cv0 (mc' := 0) (ms' := 0) rfl jm_MD_isGood_n jm_MD_isGood_f rfl rfl rfl rfl rfl rfl rfl (Nat.zero_le _) (Nat.zero_le _) ?_
  show jx_W (jm_MD_isGood, _, _, _, _, _, _) _ 0 0 0 [some _] [] _
  refine jr_aload rfl rfl ?_
  refine jr_getI rfl rfl ?_
  refine jr_if_ne rfl (fun z => absurd (by first | exact xg | exact (g1.2.2.2 4 (by decide)).trans xg) z) (fun _ => ?_)
  refine jr_ic rfl ?_
  refine jr_goto rfl ?_
  refine jr_zret rfl rfl rfl (Nat.zero_le _) (Nat.zero_le _) ?_
  refine jr_if_ne rfl (fun _ => ?_) (fun z => absurd z (by decide))
  refine jr_aload rfl rfl ?_
  refine jr_getI rfl rfl ?_
  refine jr_ic rfl ?_
  rw [xm.2.2.1]
  refine jr_icmp_eq rfl (fun _ => ?_) (fun z => absurd (jT_mt4.mpr hK) z)
  refine jr_aload rfl rfl ?_
  refine jr_cv0 (mc' := 0) (ms' := 0) rfl jm_MD_isGood_n jm_MD_isGood_f rfl rfl rfl rfl rfl rfl rfl (Nat.zero_le _) (Nat.zero_le _) ?_
  show jx_W (jm_MD_isGood, _, _, _, _, _, _) _ 0 0 0 [some _] [] _
  refine jr_aload rfl rfl ?_
  refine jr_getI rfl rfl ?_
  refine jr_if_ne rfl (fun z => absurd (by first | exact xg | exact (g1.2.2.2 4 (by decide)).trans xg) z) (fun _ => ?_)
  refine jr_ic rfl ?_
  refine jr_goto rfl ?_
  refine jr_zret rfl rfl rfl (Nat.zero_le _) (Nat.zero_le _) ?_
  refine jr_if_eq rfl (fun z => absurd z (by decide)) (fun _ => ?_)
  refine jr_aload rfl rfl ?_
  refine jr_getI rfl rfl ?_
  refine jr_iload rfl rfl ?_
  rw [show jh_I h 11 0 9 = nI (jT_v B sz (jT_p B sz t)) from xm.2.2.2.1 hK]
  refine jr_icmp_lt rfl (fun c17 => ?_) (fun c17 => ?_)
  · refine jr_aload rfl rfl ?_
    refine jr_ic rfl ?_
    refine jr_aload rfl rfl ?_
    refine jr_getI rfl rfl ?_
    refine jr_cv2 (mc' := 0) (ms' := 0) rfl jm_MD_fails_n jm_MD_fails_f rfl rfl rfl rfl rfl rfl rfl (Nat.zero_le _) (Nat.zero_le _) ?_
    show jx_W (jm_MD_fails, _, _, _, _, _, _) _ 0 0 0 [some _, some _, some _] [] _
    refine jr_aload rfl rfl ?_
    refine jr_getI rfl rfl ?_
    refine jr_if_le rfl (fun _ => ?_) (fun z => absurd (by rw [xg]; decide) z)
    refine jr_aload rfl rfl ?_
    refine jr_iload rfl rfl ?_
    refine jr_putI rfl rfl ?_
    refine jr_aload rfl rfl ?_
    refine jr_iload rfl rfl ?_
    refine jr_putI rfl rfl ?_
    refine jr_vret rfl rfl (Nat.zero_le _) (Nat.zero_le _) ?_
    refine jr_aload rfl rfl ?_
    refine jr_getI rfl rfl ?_
    refine jr_ist3 rfl rfl ?_
    refine jr_aload rfl rfl ?_
    refine jr_cv0 (mc' := 0) (ms' := 0) rfl jm_MD_isGood_n jm_MD_isGood_f rfl rfl rfl rfl rfl rfl rfl (Nat.zero_le _) (Nat.zero_le _) ?_
    show jx_W (jm_MD_isGood, _, _, _, _, _, _) _ 0 0 0 [some _] [] _
    refine jr_aload rfl rfl ?_
    refine jr_getI rfl rfl ?_
    refine jr_if_ne rfl (fun _ => ?_) (fun z => absurd z (show ¬ (4 : Int32) = 0 by decide))
    refine jr_ic rfl ?_
    refine jr_zret rfl rfl rfl (Nat.zero_le _) (Nat.zero_le _) ?_
    refine jr_if_eq rfl (fun _ => ?_) (fun z => absurd (by decide) z)
    refine jr_aload rfl rfl ?_
    refine jr_cv0 (mc' := 0) (ms' := 0) rfl jm_MD_isGood_n jm_MD_isGood_f rfl rfl rfl rfl rfl rfl rfl (Nat.zero_le _) (Nat.zero_le _) ?_
    show jx_W (jm_MD_isGood, _, _, _, _, _, _) _ 0 0 0 [some _] [] _
    refine jr_aload rfl rfl ?_
    refine jr_getI rfl rfl ?_
    refine jr_if_ne rfl (fun _ => ?_) (fun z => absurd z (show ¬ (4 : Int32) = 0 by decide))
    refine jr_ic rfl ?_
    refine jr_zret rfl rfl rfl (Nat.zero_le _) (Nat.zero_le _) ?_
    refine jr_if_eq rfl (fun _ => ?_) (fun z => absurd (by decide) z)
    refine jr_iload rfl rfl ?_
    refine jr_iret rfl rfl (Nat.zero_le _) (Nat.zero_le _) ?_
    refine k _ ⟨fun a b z => ?_, rfl, fun f z1 z2 => ?_, ?_, ?_⟩
    · exact (if_neg (fun y => z y.1)).trans (if_neg (fun y => z y.1))
    · exact (jg_un z2).trans (jg_un z1)
    · exact (jg_un (by decide) : upd (upd (jh_I h 11 0) 4 4) 5 (jh_I h 11 0 6) 4 = _).trans (jg_us _ _ _)
    · exact ⟨(jg_us (upd (jh_I h 11 0) 4 4) 5 (jh_I h 11 0 6)).trans xm.1, (jg_un (by decide) : upd (upd (jh_I h 11 0) 4 4) 5 (jh_I h 11 0 6) 6 = _).trans ((jg_un (by decide)).trans xm.1)⟩
  · refine jr_aload rfl rfl ?_
    refine jr_getI rfl rfl ?_
    refine jr_iload rfl rfl ?_
    rw [show jh_I h 11 0 9 = nI (jT_v B sz (jT_p B sz t)) from xm.2.2.2.1 hK]
    refine jr_icmp_le rfl (fun c21 => ?_) (fun c21 => ?_)
    · exfalso
      have f1 := jn_nlt (show ¬ nI (jT_v B sz (jT_p B sz t)) < nI lo from c17) (by omega) (by omega)
      have f2 := jn_le (show nI (jT_v B sz (jT_p B sz t)) ≤ nI hi from c21) (by omega) (by omega)
      omega
    · refine jr_aload rfl rfl ?_
      refine jr_ic rfl ?_
      refine jr_aload rfl rfl ?_
      refine jr_getI rfl rfl ?_
      refine jr_cv2 (mc' := 0) (ms' := 0) rfl jm_MD_fails_n jm_MD_fails_f rfl rfl rfl rfl rfl rfl rfl (Nat.zero_le _) (Nat.zero_le _) ?_
      show jx_W (jm_MD_fails, _, _, _, _, _, _) _ 0 0 0 [some _, some _, some _] [] _
      refine jr_aload rfl rfl ?_
      refine jr_getI rfl rfl ?_
      refine jr_if_le rfl (fun _ => ?_) (fun z => absurd (by rw [xg]; decide) z)
      refine jr_aload rfl rfl ?_
      refine jr_iload rfl rfl ?_
      refine jr_putI rfl rfl ?_
      refine jr_aload rfl rfl ?_
      refine jr_iload rfl rfl ?_
      refine jr_putI rfl rfl ?_
      refine jr_vret rfl rfl (Nat.zero_le _) (Nat.zero_le _) ?_
      refine jr_aload rfl rfl ?_
      refine jr_getI rfl rfl ?_
      refine jr_ist3 rfl rfl ?_
      refine jr_aload rfl rfl ?_
      refine jr_cv0 (mc' := 0) (ms' := 0) rfl jm_MD_isGood_n jm_MD_isGood_f rfl rfl rfl rfl rfl rfl rfl (Nat.zero_le _) (Nat.zero_le _) ?_
      show jx_W (jm_MD_isGood, _, _, _, _, _, _) _ 0 0 0 [some _] [] _
      refine jr_aload rfl rfl ?_
      refine jr_getI rfl rfl ?_
      refine jr_if_ne rfl (fun _ => ?_) (fun z => absurd z (show ¬ (4 : Int32) = 0 by decide))
      refine jr_ic rfl ?_
      refine jr_zret rfl rfl rfl (Nat.zero_le _) (Nat.zero_le _) ?_
      refine jr_if_eq rfl (fun _ => ?_) (fun z => absurd (by decide) z)
      refine jr_aload rfl rfl ?_
      refine jr_cv0 (mc' := 0) (ms' := 0) rfl jm_MD_isGood_n jm_MD_isGood_f rfl rfl rfl rfl rfl rfl rfl (Nat.zero_le _) (Nat.zero_le _) ?_
      show jx_W (jm_MD_isGood, _, _, _, _, _, _) _ 0 0 0 [some _] [] _
      refine jr_aload rfl rfl ?_
      refine jr_getI rfl rfl ?_
      refine jr_if_ne rfl (fun _ => ?_) (fun z => absurd z (show ¬ (4 : Int32) = 0 by decide))
      refine jr_ic rfl ?_
      refine jr_zret rfl rfl rfl (Nat.zero_le _) (Nat.zero_le _) ?_
      refine jr_if_eq rfl (fun _ => ?_) (fun z => absurd (by decide) z)
      refine jr_iload rfl rfl ?_
      refine jr_iret rfl rfl (Nat.zero_le _) (Nat.zero_le _) ?_
      refine k _ ⟨fun a b z => ?_, rfl, fun f z1 z2 => ?_, ?_, ?_⟩
      · exact (if_neg (fun y => z y.1)).trans (if_neg (fun y => z y.1))
      · exact (jg_un z2).trans (jg_un z1)
      · exact (jg_un (by decide) : upd (upd (jh_I h 11 0) 4 4) 5 (jh_I h 11 0 6) 4 = _).trans (jg_us _ _ _)
      · exact ⟨(jg_us (upd (jh_I h 11 0) 4 4) 5 (jh_I h 11 0 6)).trans xm.1, (jg_un (by decide) : upd (upd (jh_I h 11 0) 4 4) 5 (jh_I h 11 0 6) 6 = _).trans ((jg_un (by decide)).trans xm.1)⟩

set_option maxHeartbeats 800000 in
set_option maxRecDepth 100000 in
theorem eM_num_b {d : Nat} {h : jx_H} {Q : Option jx_V → jx_H → Prop} {lo hi : Nat}  (hb : ¬ jh_I h 11 0 4 = 0) (k : Q (some (jv_i (nI lo))) h)  : jx_Ev jm_MD_numeral (d + 5) 0 0 false 1 [jv_r 11 0, jv_i (nI lo), jv_i (nI hi)] h Q := by
  show jx_W (jm_MD_numeral, d + 5, 0, 0, false, 1, _) Q 0 0 0 [some (jv_r 11 0), some (jv_i (nI lo)), some (jv_i (nI hi)), none] [] _
  refine jr_aload rfl rfl ?_
  refine jr_cv0 (mc' := 0) (ms' := 0) rfl jm_MD_isGood_n jm_MD_isGood_f rfl rfl rfl rfl rfl rfl rfl (Nat.zero_le _) (Nat.zero_le _) ?_
  show jx_W (jm_MD_isGood, _, _, _, _, _, _) _ 0 0 0 [some _] [] _
  refine jr_aload rfl rfl ?_
  refine jr_getI rfl rfl ?_
  refine jr_if_ne rfl (fun _ => ?_) (fun z => absurd z hb)
  refine jr_ic rfl ?_
  refine jr_zret rfl rfl rfl (Nat.zero_le _) (Nat.zero_le _) ?_
  refine jr_if_ne rfl (fun z => absurd (by decide) z) (fun _ => ?_)
  refine jr_iload rfl rfl ?_
  refine jr_iret rfl rfl (Nat.zero_le _) (Nat.zero_le _) ?_
  exact k

set_option maxHeartbeats 800000 in
set_option maxRecDepth 100000 in
theorem eM_has_y {d : Nat} {h : jx_H} {Q : Option jx_V → jx_H → Prop} {B : Nat → Int32} {sz t : Nat} {W : Int64} {i : Nat}  (xt : jX_t h B sz) (xm : jT_mc h B sz t) (xg : jh_I h 11 0 4 = 0) (hi : i < 29) (hW : W = jT_key (jy_words.getD i [])) (hK : jT_K B sz t = 100 + i) (k : ∀ h', jT_MG h h' → jT_mc h' B sz (t + 1) → Q (some (jv_i 1)) h')  : jx_Ev jm_MD_has (d + 5) 0 0 false 1 [jv_r 11 0, jv_l W] h Q := by
  show jx_W (jm_MD_has, d + 5, 0, 0, false, 1, _) Q 0 0 0 [some (jv_r 11 0), some (jv_l W), none, none] [] _
  refine jr_aload rfl rfl ?_
  refine jr_cv0 (mc' := 0) (ms' := 0) rfl jm_MD_isGood_n jm_MD_isGood_f rfl rfl rfl rfl rfl rfl rfl (Nat.zero_le _) (Nat.zero_le _) ?_
  show jx_W (jm_MD_isGood, _, _, _, _, _, _) _ 0 0 0 [some _] [] _
  refine jr_aload rfl rfl ?_
  refine jr_getI rfl rfl ?_
  refine jr_if_ne rfl (fun z => absurd (by first | exact xg | exact (g1.2.2.2 4 (by decide)).trans xg) z) (fun _ => ?_)
  refine jr_ic rfl ?_
  refine jr_goto rfl ?_
  refine jr_zret rfl rfl rfl (Nat.zero_le _) (Nat.zero_le _) ?_
  refine jr_if_eq rfl (fun z => absurd z (by decide)) (fun _ => ?_)
  refine jr_aload rfl rfl ?_
  refine jr_lload rfl rfl ?_
  refine jr_cv1 (mc' := 0) (ms' := 0) rfl jm_MD_isWord_n jm_MD_isWord_f rfl rfl rfl rfl rfl rfl rfl (Nat.zero_le _) (Nat.zero_le _) ?_
  refine eM_isWord xm hi hW ?_
  refine jr_if_eq rfl (fun z => absurd z (by rw [if_pos hK]; decide)) (fun _ => ?_)
  refine jr_ic rfl ?_
  refine jr_goto rfl ?_
  refine jr_ist3 rfl rfl ?_
  refine jr_iload rfl rfl ?_
  refine jr_if_eq rfl (fun z => absurd z (by decide)) (fun _ => ?_)
  refine jr_aload rfl rfl ?_
  refine jr_cv0 (mc' := 0) (ms' := 0) rfl jm_MD_goOn_n jm_MD_goOn_f rfl rfl rfl rfl rfl rfl rfl (Nat.zero_le _) (Nat.zero_le _) ?_
  refine eM_goOn (B := B) (sz := sz) (t := t + 1) xt.1 xt.2.1 xt.2.2.1 xm.2.1 (fun h1 g1 m1 => ?_)
  refine jr_iload rfl rfl ?_
  refine jr_zret rfl rfl rfl (Nat.zero_le _) (Nat.zero_le _) ?_
  exact k h1 g1 m1

set_option maxHeartbeats 800000 in
set_option maxRecDepth 100000 in
theorem eM_has_n {d : Nat} {h : jx_H} {Q : Option jx_V → jx_H → Prop} {B : Nat → Int32} {sz t : Nat} {W : Int64} {i : Nat}  (xt : jX_t h B sz) (xm : jT_mc h B sz t) (xg : jh_I h 11 0 4 = 0) (hi : i < 29) (hW : W = jT_key (jy_words.getD i [])) (hK : ¬ jT_K B sz t = 100 + i) (k : Q (some (jv_i 0)) h)  : jx_Ev jm_MD_has (d + 5) 0 0 false 1 [jv_r 11 0, jv_l W] h Q := by
  show jx_W (jm_MD_has, d + 5, 0, 0, false, 1, _) Q 0 0 0 [some (jv_r 11 0), some (jv_l W), none, none] [] _
  refine jr_aload rfl rfl ?_
  refine jr_cv0 (mc' := 0) (ms' := 0) rfl jm_MD_isGood_n jm_MD_isGood_f rfl rfl rfl rfl rfl rfl rfl (Nat.zero_le _) (Nat.zero_le _) ?_
  show jx_W (jm_MD_isGood, _, _, _, _, _, _) _ 0 0 0 [some _] [] _
  refine jr_aload rfl rfl ?_
  refine jr_getI rfl rfl ?_
  refine jr_if_ne rfl (fun z => absurd (by first | exact xg | exact (g1.2.2.2 4 (by decide)).trans xg) z) (fun _ => ?_)
  refine jr_ic rfl ?_
  refine jr_goto rfl ?_
  refine jr_zret rfl rfl rfl (Nat.zero_le _) (Nat.zero_le _) ?_
  refine jr_if_eq rfl (fun z => absurd z (by decide)) (fun _ => ?_)
  refine jr_aload rfl rfl ?_
  refine jr_lload rfl rfl ?_
  refine jr_cv1 (mc' := 0) (ms' := 0) rfl jm_MD_isWord_n jm_MD_isWord_f rfl rfl rfl rfl rfl rfl rfl (Nat.zero_le _) (Nat.zero_le _) ?_
  refine eM_isWord xm hi hW ?_
  refine jr_if_eq rfl (fun _ => ?_) (fun z => absurd (if_neg hK) z)
  refine jr_ic rfl ?_
  refine jr_ist3 rfl rfl ?_
  refine jr_iload rfl rfl ?_
  refine jr_if_eq rfl (fun _ => ?_) (fun z => absurd (by decide) z)
  refine jr_iload rfl rfl ?_
  refine jr_zret rfl rfl rfl (Nat.zero_le _) (Nat.zero_le _) ?_
  exact k

set_option maxHeartbeats 800000 in
set_option maxRecDepth 100000 in
theorem eM_has_b {d : Nat} {h : jx_H} {Q : Option jx_V → jx_H → Prop} {W : Int64}  (hb : ¬ jh_I h 11 0 4 = 0) (k : Q (some (jv_i 0)) h)  : jx_Ev jm_MD_has (d + 5) 0 0 false 1 [jv_r 11 0, jv_l W] h Q := by
  show jx_W (jm_MD_has, d + 5, 0, 0, false, 1, _) Q 0 0 0 [some (jv_r 11 0), some (jv_l W), none, none] [] _
  refine jr_aload rfl rfl ?_
  refine jr_cv0 (mc' := 0) (ms' := 0) rfl jm_MD_isGood_n jm_MD_isGood_f rfl rfl rfl rfl rfl rfl rfl (Nat.zero_le _) (Nat.zero_le _) ?_
  show jx_W (jm_MD_isGood, _, _, _, _, _, _) _ 0 0 0 [some _] [] _
  refine jr_aload rfl rfl ?_
  refine jr_getI rfl rfl ?_
  refine jr_if_ne rfl (fun _ => ?_) (fun z => absurd z hb)
  refine jr_ic rfl ?_
  refine jr_zret rfl rfl rfl (Nat.zero_le _) (Nat.zero_le _) ?_
  refine jr_if_eq rfl (fun _ => ?_) (fun z => absurd (by decide) z)
  refine jr_ic rfl ?_
  refine jr_ist3 rfl rfl ?_
  refine jr_iload rfl rfl ?_
  refine jr_if_eq rfl (fun _ => ?_) (fun z => absurd (by decide) z)
  refine jr_iload rfl rfl ?_
  refine jr_zret rfl rfl rfl (Nat.zero_le _) (Nat.zero_le _) ?_
  exact k

set_option maxHeartbeats 800000 in
set_option maxRecDepth 100000 in
theorem eM_fresh_y {d : Nat} {h : jx_H} {Q : Option jx_V → jx_H → Prop} {B : Nat → Int32} {sz t : Nat}  (xt : jX_t h B sz) (xm : jT_mc h B sz t) (xg : jh_I h 11 0 4 = 0) (hK : jT_K B sz t = 3) (k : ∀ h', jT_MG h h' → jT_mc h' B sz (t + 1) → Q (some (jv_l (jT_key (jT_wd B sz (jT_p B sz t))))) h')  : jx_Ev jm_MD_fresh (d + 5) 0 0 false 1 [jv_r 11 0, jv_i (-1)] h Q := by
  show jx_W (jm_MD_fresh, d + 5, 0, 0, false, 1, _) Q 0 0 0 [some (jv_r 11 0), some (jv_i (-1)), none, none] [] _
  refine jr_aload rfl rfl ?_
  refine jr_cv0 (mc' := 0) (ms' := 0) rfl jm_MD_isGood_n jm_MD_isGood_f rfl rfl rfl rfl rfl rfl rfl (Nat.zero_le _) (Nat.zero_le _) ?_
  show jx_W (jm_MD_isGood, _, _, _, _, _, _) _ 0 0 0 [some _] [] _
  refine jr_aload rfl rfl ?_
  refine jr_getI rfl rfl ?_
  refine jr_if_ne rfl (fun z => absurd (by first | exact xg | exact (g1.2.2.2 4 (by decide)).trans xg) z) (fun _ => ?_)
  refine jr_ic rfl ?_
  refine jr_goto rfl ?_
  refine jr_zret rfl rfl rfl (Nat.zero_le _) (Nat.zero_le _) ?_
  refine jr_if_ne rfl (fun _ => ?_) (fun z => absurd z (by decide))
  refine jr_aload rfl rfl ?_
  refine jr_getI rfl rfl ?_
  refine jr_ic rfl ?_
  rw [xm.2.2.1]
  refine jr_icmp_eq rfl (fun _ => ?_) (fun z => absurd (jT_mt2.mpr hK) z)
  refine jr_iload rfl rfl ?_
  refine jr_if_lt rfl (fun _ => ?_) (fun z => absurd (by decide) z)
  refine jr_aload rfl rfl ?_
  refine jr_getL rfl rfl ?_
  rw [show jh_L h 11 0 10 = jT_key (jT_wd B sz (jT_p B sz t)) from xm.2.2.2.2 (Or.inl hK)]
  refine jr_lst2 rfl rfl ?_
  refine jr_aload rfl rfl ?_
  refine jr_cv0 (mc' := 0) (ms' := 0) rfl jm_MD_isGood_n jm_MD_isGood_f rfl rfl rfl rfl rfl rfl rfl (Nat.zero_le _) (Nat.zero_le _) ?_
  show jx_W (jm_MD_isGood, _, _, _, _, _, _) _ 0 0 0 [some _] [] _
  refine jr_aload rfl rfl ?_
  refine jr_getI rfl rfl ?_
  refine jr_if_ne rfl (fun z => absurd (by first | exact xg | exact (g1.2.2.2 4 (by decide)).trans xg) z) (fun _ => ?_)
  refine jr_ic rfl ?_
  refine jr_goto rfl ?_
  refine jr_zret rfl rfl rfl (Nat.zero_le _) (Nat.zero_le _) ?_
  refine jr_if_eq rfl (fun z => absurd z (by decide)) (fun _ => ?_)
  refine jr_aload rfl rfl ?_
  refine jr_cv0 (mc' := 0) (ms' := 0) rfl jm_MD_goOn_n jm_MD_goOn_f rfl rfl rfl rfl rfl rfl rfl (Nat.zero_le _) (Nat.zero_le _) ?_
  refine eM_goOn (B := B) (sz := sz) (t := t + 1) xt.1 xt.2.1 xt.2.2.1 xm.2.1 (fun h1 g1 m1 => ?_)
  refine jr_lload rfl rfl ?_
  refine jr_lret rfl rfl (Nat.zero_le _) (Nat.zero_le _) ?_
  exact k h1 g1 m1

set_option maxHeartbeats 800000 in
set_option maxRecDepth 100000 in
theorem eM_fresh_n {d : Nat} {h : jx_H} {Q : Option jx_V → jx_H → Prop} {B : Nat → Int32} {sz t : Nat} {x : Int32}  (xt : jX_t h B sz) (xm : jT_mc h B sz t) (xg : jh_I h 11 0 4 = 0) (hK : ¬ jT_K B sz t = 3) (k : ∀ h' (v : Int64), jX_ft h h' (jX_kd (jT_K B sz t)) (jT_p B sz t) → Q (some (jv_l v)) h')  : jx_Ev jm_MD_fresh (d + 5) 0 0 false 1 [jv_r 11 0, jv_i x] h Q := by
  show jx_W (jm_MD_fresh, d + 5, 0, 0, false, 1, _) Q 0 0 0 [some (jv_r 11 0), some (jv_i x), none, none] [] _
  refine jr_aload rfl rfl ?_
  refine jr_cv0 (mc' := 0) (ms' := 0) rfl jm_MD_isGood_n jm_MD_isGood_f rfl rfl rfl rfl rfl rfl rfl (Nat.zero_le _) (Nat.zero_le _) ?_
  show jx_W (jm_MD_isGood, _, _, _, _, _, _) _ 0 0 0 [some _] [] _
  refine jr_aload rfl rfl ?_
  refine jr_getI rfl rfl ?_
  refine jr_if_ne rfl (fun z => absurd (by first | exact xg | exact (g1.2.2.2 4 (by decide)).trans xg) z) (fun _ => ?_)
  refine jr_ic rfl ?_
  refine jr_goto rfl ?_
  refine jr_zret rfl rfl rfl (Nat.zero_le _) (Nat.zero_le _) ?_
  refine jr_if_ne rfl (fun _ => ?_) (fun z => absurd z (by decide))
  refine jr_aload rfl rfl ?_
  refine jr_getI rfl rfl ?_
  refine jr_ic rfl ?_
  rw [xm.2.2.1]
  refine jr_icmp_eq rfl (fun z => absurd z (fun y => hK (jT_mt2.mp y))) (fun _ => ?_)
  refine jr_aload rfl rfl ?_
  refine jr_cv0 (mc' := 0) (ms' := 0) rfl jm_MD_misplaced_n jm_MD_misplaced_f rfl rfl rfl rfl rfl rfl rfl (Nat.zero_le _) (Nat.zero_le _) ?_
  refine eM_misplaced (B := B) (sz := sz) (t := t) xg xm (fun h1 g1 => ?_)
  refine jr_goto rfl ?_
  refine jr_aload rfl rfl ?_
  refine jr_getL rfl rfl ?_
  refine jr_lst2 rfl rfl ?_
  refine jr_aload rfl rfl ?_
  refine jr_cv0 (mc' := 0) (ms' := 0) rfl jm_MD_isGood_n jm_MD_isGood_f rfl rfl rfl rfl rfl rfl rfl (Nat.zero_le _) (Nat.zero_le _) ?_
  show jx_W (jm_MD_isGood, _, _, _, _, _, _) _ 0 0 0 [some _] [] _
  refine jr_aload rfl rfl ?_
  refine jr_getI rfl rfl ?_
  refine jr_if_ne rfl (fun _ => ?_) (fun z => absurd z (by rw [g1.2.2.2.1]; exact jX_kd_n _))
  refine jr_ic rfl ?_
  refine jr_zret rfl rfl rfl (Nat.zero_le _) (Nat.zero_le _) ?_
  refine jr_if_eq rfl (fun _ => ?_) (fun z => absurd (by decide) z)
  refine jr_lload rfl rfl ?_
  refine jr_lret rfl rfl (Nat.zero_le _) (Nat.zero_le _) ?_
  exact k h1 _ g1

set_option maxHeartbeats 800000 in
set_option maxRecDepth 100000 in
theorem eM_fresh_d {d : Nat} {h : jx_H} {Q : Option jx_V → jx_H → Prop} {B : Nat → Int32} {sz t : Nat} {j : Nat}  (xt : jX_t h B sz) (xm : jT_mc h B sz t) (xg : jh_I h 11 0 4 = 0) (hK : jT_K B sz t = 3) (hj : j < 100) (k : ∀ h' (v : Int64), jX_ft h h' 3 (jT_p B sz t) → Q (some (jv_l v)) h')  : jx_Ev jm_MD_fresh (d + 5) 0 0 false 1 [jv_r 11 0, jv_i (nI j)] h Q := by
  show jx_W (jm_MD_fresh, d + 5, 0, 0, false, 1, _) Q 0 0 0 [some (jv_r 11 0), some (jv_i (nI j)), none, none] [] _
  refine jr_aload rfl rfl ?_
  refine jr_cv0 (mc' := 0) (ms' := 0) rfl jm_MD_isGood_n jm_MD_isGood_f rfl rfl rfl rfl rfl rfl rfl (Nat.zero_le _) (Nat.zero_le _) ?_
  show jx_W (jm_MD_isGood, _, _, _, _, _, _) _ 0 0 0 [some _] [] _
  refine jr_aload rfl rfl ?_
  refine jr_getI rfl rfl ?_
  refine jr_if_ne rfl (fun z => absurd (by first | exact xg | exact (g1.2.2.2 4 (by decide)).trans xg) z) (fun _ => ?_)
  refine jr_ic rfl ?_
  refine jr_goto rfl ?_
  refine jr_zret rfl rfl rfl (Nat.zero_le _) (Nat.zero_le _) ?_
  refine jr_if_ne rfl (fun _ => ?_) (fun z => absurd z (by decide))
  refine jr_aload rfl rfl ?_
  refine jr_getI rfl rfl ?_
  refine jr_ic rfl ?_
  rw [xm.2.2.1]
  refine jr_icmp_eq rfl (fun _ => ?_) (fun z => absurd (jT_mt2.mpr hK) z)
  refine jr_iload rfl rfl ?_
  refine jr_if_lt rfl (fun z => absurd z (nI_pos (by omega))) (fun _ => ?_)
  refine jr_aload rfl rfl ?_
  refine jr_ic rfl ?_
  refine jr_aload rfl rfl ?_
  refine jr_getI rfl rfl ?_
  refine jr_cv2 (mc' := 0) (ms' := 0) rfl jm_MD_fails_n jm_MD_fails_f rfl rfl rfl rfl rfl rfl rfl (Nat.zero_le _) (Nat.zero_le _) ?_
  show jx_W (jm_MD_fails, _, _, _, _, _, _) _ 0 0 0 [some _, some _, some _] [] _
  refine jr_aload rfl rfl ?_
  refine jr_getI rfl rfl ?_
  refine jr_if_le rfl (fun _ => ?_) (fun z => absurd (by rw [xg]; decide) z)
  refine jr_aload rfl rfl ?_
  refine jr_iload rfl rfl ?_
  refine jr_putI rfl rfl ?_
  refine jr_aload rfl rfl ?_
  refine jr_iload rfl rfl ?_
  refine jr_putI rfl rfl ?_
  refine jr_vret rfl rfl (Nat.zero_le _) (Nat.zero_le _) ?_
  refine jr_aload rfl rfl ?_
  refine jr_getL rfl rfl ?_
  refine jr_lst2 rfl rfl ?_
  refine jr_aload rfl rfl ?_
  refine jr_cv0 (mc' := 0) (ms' := 0) rfl jm_MD_isGood_n jm_MD_isGood_f rfl rfl rfl rfl rfl rfl rfl (Nat.zero_le _) (Nat.zero_le _) ?_
  show jx_W (jm_MD_isGood, _, _, _, _, _, _) _ 0 0 0 [some _] [] _
  refine jr_aload rfl rfl ?_
  refine jr_getI rfl rfl ?_
  refine jr_if_ne rfl (fun _ => ?_) (fun z => absurd z (show ¬ (3 : Int32) = 0 by decide))
  refine jr_ic rfl ?_
  refine jr_zret rfl rfl rfl (Nat.zero_le _) (Nat.zero_le _) ?_
  refine jr_if_eq rfl (fun _ => ?_) (fun z => absurd (by decide) z)
  refine jr_lload rfl rfl ?_
  refine jr_lret rfl rfl (Nat.zero_le _) (Nat.zero_le _) ?_
  refine k _ _ ⟨fun a b z => ?_, rfl, fun f z1 z2 => ?_, ?_, ?_⟩
  · exact (if_neg (fun y => z y.1)).trans (if_neg (fun y => z y.1))
  · exact (jg_un z2).trans (jg_un z1)
  · exact (jg_un (by decide) : upd (upd (jh_I h 11 0) 4 3) 5 (jh_I h 11 0 6) 4 = _).trans (jg_us _ _ _)
  · exact ⟨(jg_us (upd (jh_I h 11 0) 4 3) 5 (jh_I h 11 0 6)).trans xm.1, (jg_un (by decide) : upd (upd (jh_I h 11 0) 4 3) 5 (jh_I h 11 0 6) 6 = _).trans ((jg_un (by decide)).trans xm.1)⟩

set_option maxHeartbeats 800000 in
set_option maxRecDepth 100000 in
theorem eM_told_y {d : Nat} {h : jx_H} {Q : Option jx_V → jx_H → Prop} {B : Nat → Int32} {sz t : Nat} {j : Nat}  (xt : jX_t h B sz) (xm : jT_mc h B sz t) (xg : jh_I h 11 0 4 = 0) (hK : jT_K B sz t = 3) (hj : j < 100) (k : Q (some (jv_i (nI j))) h)  : jx_Ev jm_MD_told (d + 5) 0 0 false 1 [jv_r 11 0, jv_i (nI j)] h Q := by
  show jx_W (jm_MD_told, d + 5, 0, 0, false, 1, _) Q 0 0 0 [some (jv_r 11 0), some (jv_i (nI j))] [] _
  refine jr_aload rfl rfl ?_
  refine jr_cv0 (mc' := 0) (ms' := 0) rfl jm_MD_isGood_n jm_MD_isGood_f rfl rfl rfl rfl rfl rfl rfl (Nat.zero_le _) (Nat.zero_le _) ?_
  show jx_W (jm_MD_isGood, _, _, _, _, _, _) _ 0 0 0 [some _] [] _
  refine jr_aload rfl rfl ?_
  refine jr_getI rfl rfl ?_
  refine jr_if_ne rfl (fun z => absurd (by first | exact xg | exact (g1.2.2.2 4 (by decide)).trans xg) z) (fun _ => ?_)
  refine jr_ic rfl ?_
  refine jr_goto rfl ?_
  refine jr_zret rfl rfl rfl (Nat.zero_le _) (Nat.zero_le _) ?_
  refine jr_if_ne rfl (fun _ => ?_) (fun z => absurd z (by decide))
  refine jr_aload rfl rfl ?_
  refine jr_getI rfl rfl ?_
  refine jr_ic rfl ?_
  rw [xm.2.2.1]
  refine jr_icmp_eq rfl (fun _ => ?_) (fun z => absurd (jT_mt2.mpr hK) z)
  refine jr_iload rfl rfl ?_
  refine jr_if_ge rfl (fun _ => ?_) (fun z => absurd (nI_pos' (by omega)) z)
  refine jr_iload rfl rfl ?_
  refine jr_if_ge rfl (fun _ => ?_) (fun z => absurd (nI_pos' (by omega)) z)
  refine jr_iload rfl rfl ?_
  refine jr_iret rfl rfl (Nat.zero_le _) (Nat.zero_le _) ?_
  exact k

set_option maxHeartbeats 800000 in
set_option maxRecDepth 100000 in
theorem eM_told_n {d : Nat} {h : jx_H} {Q : Option jx_V → jx_H → Prop} {B : Nat → Int32} {sz t : Nat}  (xt : jX_t h B sz) (xm : jT_mc h B sz t) (xg : jh_I h 11 0 4 = 0) (hK : ¬ jT_K B sz t = 3) (k : ∀ h', jX_ft h h' (jX_kd (jT_K B sz t)) (jT_p B sz t) → Q (some (jv_i 0)) h')  : jx_Ev jm_MD_told (d + 5) 0 0 false 1 [jv_r 11 0, jv_i (-1)] h Q := by
  show jx_W (jm_MD_told, d + 5, 0, 0, false, 1, _) Q 0 0 0 [some (jv_r 11 0), some (jv_i (-1))] [] _
  refine jr_aload rfl rfl ?_
  refine jr_cv0 (mc' := 0) (ms' := 0) rfl jm_MD_isGood_n jm_MD_isGood_f rfl rfl rfl rfl rfl rfl rfl (Nat.zero_le _) (Nat.zero_le _) ?_
  show jx_W (jm_MD_isGood, _, _, _, _, _, _) _ 0 0 0 [some _] [] _
  refine jr_aload rfl rfl ?_
  refine jr_getI rfl rfl ?_
  refine jr_if_ne rfl (fun z => absurd (by first | exact xg | exact (g1.2.2.2 4 (by decide)).trans xg) z) (fun _ => ?_)
  refine jr_ic rfl ?_
  refine jr_goto rfl ?_
  refine jr_zret rfl rfl rfl (Nat.zero_le _) (Nat.zero_le _) ?_
  refine jr_if_ne rfl (fun _ => ?_) (fun z => absurd z (by decide))
  refine jr_aload rfl rfl ?_
  refine jr_getI rfl rfl ?_
  refine jr_ic rfl ?_
  rw [xm.2.2.1]
  refine jr_icmp_eq rfl (fun z => absurd z (fun y => hK (jT_mt2.mp y))) (fun _ => ?_)
  refine jr_aload rfl rfl ?_
  refine jr_cv0 (mc' := 0) (ms' := 0) rfl jm_MD_misplaced_n jm_MD_misplaced_f rfl rfl rfl rfl rfl rfl rfl (Nat.zero_le _) (Nat.zero_le _) ?_
  refine eM_misplaced (B := B) (sz := sz) (t := t) xg xm (fun h1 g1 => ?_)
  refine jr_goto rfl ?_
  refine jr_iload rfl rfl ?_
  refine jr_if_ge rfl (fun z => absurd z (by decide)) (fun _ => ?_)
  refine jr_ic rfl ?_
  refine jr_goto rfl ?_
  refine jr_iret rfl rfl (Nat.zero_le _) (Nat.zero_le _) ?_
  exact k h1 g1

set_option maxHeartbeats 800000 in
set_option maxRecDepth 100000 in
theorem eM_told_u {d : Nat} {h : jx_H} {Q : Option jx_V → jx_H → Prop} {B : Nat → Int32} {sz t : Nat}  (xt : jX_t h B sz) (xm : jT_mc h B sz t) (xg : jh_I h 11 0 4 = 0) (hK : jT_K B sz t = 3) (k : ∀ h', jX_ft h h' 5 (jT_p B sz t) → Q (some (jv_i 0)) h')  : jx_Ev jm_MD_told (d + 5) 0 0 false 1 [jv_r 11 0, jv_i (-1)] h Q := by
  show jx_W (jm_MD_told, d + 5, 0, 0, false, 1, _) Q 0 0 0 [some (jv_r 11 0), some (jv_i (-1))] [] _
  refine jr_aload rfl rfl ?_
  refine jr_cv0 (mc' := 0) (ms' := 0) rfl jm_MD_isGood_n jm_MD_isGood_f rfl rfl rfl rfl rfl rfl rfl (Nat.zero_le _) (Nat.zero_le _) ?_
  show jx_W (jm_MD_isGood, _, _, _, _, _, _) _ 0 0 0 [some _] [] _
  refine jr_aload rfl rfl ?_
  refine jr_getI rfl rfl ?_
  refine jr_if_ne rfl (fun z => absurd (by first | exact xg | exact (g1.2.2.2 4 (by decide)).trans xg) z) (fun _ => ?_)
  refine jr_ic rfl ?_
  refine jr_goto rfl ?_
  refine jr_zret rfl rfl rfl (Nat.zero_le _) (Nat.zero_le _) ?_
  refine jr_if_ne rfl (fun _ => ?_) (fun z => absurd z (by decide))
  refine jr_aload rfl rfl ?_
  refine jr_getI rfl rfl ?_
  refine jr_ic rfl ?_
  rw [xm.2.2.1]
  refine jr_icmp_eq rfl (fun _ => ?_) (fun z => absurd (jT_mt2.mpr hK) z)
  refine jr_iload rfl rfl ?_
  refine jr_if_ge rfl (fun z => absurd z (by decide)) (fun _ => ?_)
  refine jr_aload rfl rfl ?_
  refine jr_ic rfl ?_
  refine jr_aload rfl rfl ?_
  refine jr_getI rfl rfl ?_
  refine jr_cv2 (mc' := 0) (ms' := 0) rfl jm_MD_fails_n jm_MD_fails_f rfl rfl rfl rfl rfl rfl rfl (Nat.zero_le _) (Nat.zero_le _) ?_
  show jx_W (jm_MD_fails, _, _, _, _, _, _) _ 0 0 0 [some _, some _, some _] [] _
  refine jr_aload rfl rfl ?_
  refine jr_getI rfl rfl ?_
  refine jr_if_le rfl (fun _ => ?_) (fun z => absurd (by rw [xg]; decide) z)
  refine jr_aload rfl rfl ?_
  refine jr_iload rfl rfl ?_
  refine jr_putI rfl rfl ?_
  refine jr_aload rfl rfl ?_
  refine jr_iload rfl rfl ?_
  refine jr_putI rfl rfl ?_
  refine jr_vret rfl rfl (Nat.zero_le _) (Nat.zero_le _) ?_
  refine jr_iload rfl rfl ?_
  refine jr_if_ge rfl (fun z => absurd z (by decide)) (fun _ => ?_)
  refine jr_ic rfl ?_
  refine jr_goto rfl ?_
  refine jr_iret rfl rfl (Nat.zero_le _) (Nat.zero_le _) ?_
  refine k _ ⟨fun a b z => ?_, rfl, fun f z1 z2 => ?_, ?_, ?_⟩
  · exact (if_neg (fun y => z y.1)).trans (if_neg (fun y => z y.1))
  · exact (jg_un z2).trans (jg_un z1)
  · exact (jg_un (by decide) : upd (upd (jh_I h 11 0) 4 5) 5 (jh_I h 11 0 6) 4 = _).trans (jg_us _ _ _)
  · exact ⟨(jg_us (upd (jh_I h 11 0) 4 5) 5 (jh_I h 11 0 6)).trans xm.1, (jg_un (by decide) : upd (upd (jh_I h 11 0) 4 5) 5 (jh_I h 11 0 6) 6 = _).trans ((jg_un (by decide)).trans xm.1)⟩

set_option maxHeartbeats 800000 in
set_option maxRecDepth 100000 in
theorem eM_told_b {d : Nat} {h : jx_H} {Q : Option jx_V → jx_H → Prop} {x : Int32}  (hb : ¬ jh_I h 11 0 4 = 0) (k : Q (some (jv_i 0)) h)  : jx_Ev jm_MD_told (d + 5) 0 0 false 1 [jv_r 11 0, jv_i x] h Q := by
  show jx_W (jm_MD_told, d + 5, 0, 0, false, 1, _) Q 0 0 0 [some (jv_r 11 0), some (jv_i x)] [] _
  refine jr_aload rfl rfl ?_
  refine jr_cv0 (mc' := 0) (ms' := 0) rfl jm_MD_isGood_n jm_MD_isGood_f rfl rfl rfl rfl rfl rfl rfl (Nat.zero_le _) (Nat.zero_le _) ?_
  show jx_W (jm_MD_isGood, _, _, _, _, _, _) _ 0 0 0 [some _] [] _
  refine jr_aload rfl rfl ?_
  refine jr_getI rfl rfl ?_
  refine jr_if_ne rfl (fun _ => ?_) (fun z => absurd z hb)
  refine jr_ic rfl ?_
  refine jr_zret rfl rfl rfl (Nat.zero_le _) (Nat.zero_le _) ?_
  refine jr_if_ne rfl (fun z => absurd (by decide) z) (fun _ => ?_)
  refine jr_ic rfl ?_
  refine jr_iret rfl rfl (Nat.zero_le _) (Nat.zero_le _) ?_
  exact k

