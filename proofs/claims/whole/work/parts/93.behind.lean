def jp_cmp : List (Nat × Int32) → Bool
  | [] => false
  | (w, _) :: P => if w = 5 ∨ w = 6 then jp_cmp P else w == 4
def jp_b : List (Nat × Int32) → Prop
  | [] => False
  | (w, _) :: P => (w ≠ 5 ∧ w ≠ 6) ∨ jp_b P
set_option maxHeartbeats 800000 in
set_option maxRecDepth 100000 in
theorem lp_isCmp {d n0 : Nat} {Q : Option jx_V → jx_H → Prop} {h : jx_H} {w : Nat} {s : Int32} (P : List (Nat × Int32)) (hok : jp_ok (jh_I h 95 0) (jh_I h 96 0) ((w, s) :: P)) (hb : jp_b ((w, s) :: P)) (hP : P.length < 60) (k : Q (some (jv_i (if jp_cmp ((w, s) :: P) = true then 1 else 0))) h)  : jx_W (jm_MD_isCompared, d + 1, 0, 0, false, 1, n0) Q 0 0 5 [some (jv_r 11 0), some (jv_i (nI P.length))] [] h := by
  have xw := hok.2.1
  refine jr_aload rfl rfl ?_
  refine jr_getR rfl rfl rfl rfl (Or.inl rfl) ?_
  refine jr_iload rfl rfl ?_
  refine jr_iald (len := 90) rfl rfl rfl (by omega) ?_
  rw [show jh_I h 95 0 P.length = nI w from hok.1]
  refine jr_ic rfl ?_
  refine jr_icmp_eq rfl (fun c10 => ?_) (fun c10 => ?_)
  · refine jr_iinc1 rfl rfl ?_
    refine jr_goto rfl ?_
    have hw5 : w = 5 := jn_eq (show nI w = nI 5 from c10) (by omega) (by decide)
    have hb2 : jp_b P := hb.resolve_left (by omega)
    have e : jp_cmp ((w, s) :: P) = jp_cmp P := if_pos (by omega)
    rw [e] at k
    match P, hok, hb2, hP, k with
    | (w', s') :: P', hok, hb2, hP, k =>
      rw [jn_dec (show 1 ≤ ((w', s') :: P').length by simp), show ((w', s') :: P').length - 1 = P'.length by simp]
      exact lp_isCmp P' hok.2.2.2 hb2 (by simp at hP; omega) k
  · refine jr_aload rfl rfl ?_
    refine jr_getR rfl rfl rfl rfl (Or.inl rfl) ?_
    refine jr_iload rfl rfl ?_
    refine jr_iald (len := 90) rfl rfl rfl (by omega) ?_
    rw [show jh_I h 95 0 P.length = nI w from hok.1]
    refine jr_ic rfl ?_
    refine jr_icmp_ne rfl (fun c16 => ?_) (fun c16 => ?_)
    · refine jr_aload rfl rfl ?_
      refine jr_getR rfl rfl rfl rfl (Or.inl rfl) ?_
      refine jr_iload rfl rfl ?_
      refine jr_iald (len := 90) rfl rfl rfl (by omega) ?_
      rw [show jh_I h 95 0 P.length = nI w from hok.1]
      refine jr_ic rfl ?_
      refine jr_icmp_ne rfl (fun c24 => ?_) (fun c24 => ?_)
      · refine jr_ic rfl ?_
        refine jr_zret rfl rfl rfl (Nat.zero_le _) (Nat.zero_le _) ?_
        have n5 : ¬ w = 5 := fun z => c10 (by rw [z]; rfl)
        have n6 : ¬ w = 6 := fun z => c16 (by rw [z]; rfl)
        rw [show jp_cmp ((w, s) :: P) = (w == 4) from if_neg (by omega)] at k
        rw [if_neg (fun z => c24 (by rw [beq_iff_eq.mp z]; rfl))] at k
        exact k
      · refine jr_ic rfl ?_
        refine jr_goto rfl ?_
        refine jr_zret rfl rfl rfl (Nat.zero_le _) (Nat.zero_le _) ?_
        have n5 : ¬ w = 5 := fun z => c10 (by rw [z]; rfl)
        have n6 : ¬ w = 6 := fun z => c16 (by rw [z]; rfl)
        rw [show jp_cmp ((w, s) :: P) = (w == 4) from if_neg (by omega)] at k
        rw [if_pos (beq_iff_eq.mpr (jn_eq (show nI w = nI 4 from c24) (by omega) (by decide)))] at k
        exact k
    · refine jr_iinc1 rfl rfl ?_
      refine jr_goto rfl ?_
      have hw5 : w = 6 := jn_eq (show nI w = nI 6 from c16) (by omega) (by decide)
      have hb2 : jp_b P := hb.resolve_left (by omega)
      have e : jp_cmp ((w, s) :: P) = jp_cmp P := if_pos (by omega)
      rw [e] at k
      match P, hok, hb2, hP, k with
      | (w', s') :: P', hok, hb2, hP, k =>
        rw [jn_dec (show 1 ≤ ((w', s') :: P').length by simp), show ((w', s') :: P').length - 1 = P'.length by simp]
        exact lp_isCmp P' hok.2.2.2 hb2 (by simp at hP; omega) k

set_option maxHeartbeats 800000 in
set_option maxRecDepth 100000 in
theorem eM_isCmp {d : Nat} {h : jx_H} {Q : Option jx_V → jx_H → Prop} {w : Nat} {s : Int32} {P : List (Nat × Int32)} (xl : jh_I h 11 0 47 = nI (P.length + 1)) (hok : jp_ok (jh_I h 95 0) (jh_I h 96 0) ((w, s) :: P)) (hb : jp_b ((w, s) :: P)) (hP : P.length < 60) (k : Q (some (jv_i (if jp_cmp ((w, s) :: P) = true then 1 else 0))) h)  : jx_Ev jm_MD_isCompared (d + 1) 0 0 false 1 [jv_r 11 0] h Q := by
  show jx_W (jm_MD_isCompared, d + 1, 0, 0, false, 1, _) Q 0 0 0 [some (jv_r 11 0), none] [] _
  refine jr_aload rfl rfl ?_
  refine jr_getI rfl rfl ?_
  refine jr_ic rfl ?_
  refine jr_isub rfl ?_
  rw [show jh_I h 11 0 47 - 1 = nI P.length from jn_sub xl (jn_c 1) (by omega)]
  refine jr_ist1 rfl rfl ?_
  exact lp_isCmp P hok hb hP k

theorem jT_rk_lt (k : Nat) : jT_rk k < 7 := by
  unfold jT_rk
  repeat' split
  all_goals decide
set_option maxHeartbeats 800000 in
set_option maxRecDepth 100000 in
theorem eM_bu {d : Nat} {h : jx_H} {Q : Option jx_V → jx_H → Prop} {B : Nat → Int32} {sz β t u v c : Nat} {C N : Nat → Int32} {P : List (Nat × Int32)} {i w : Nat} {s : Int32}  (hx : jX h B sz β t u v c C N ((w, s) :: P) i) (hβ : β < 2) (hP : P.length < 60) (hb : jp_b ((w, s) :: P)) (k1 : jT_rk (jT_K B sz t) = 4 → jp_cmp ((w, s) :: P) = true → ∀ h', jX_ft h h' (jX_kd (jT_K B sz t)) (jT_p B sz t) → Q (some (jv_i 1)) h') (k2 : (jT_rk (jT_K B sz t) = 4 → jp_cmp ((w, s) :: P) = false) → ∀ n1, jx_W (jm_MD_behindUnit, d + 6, 0, 0, false, 1, n1) Q 0 0 13 [some (jv_r 11 0), some (jv_i (nI (jT_rk (jT_K B sz t))))] [] h)  : jx_Ev jm_MD_behindUnit (d + 6) 0 0 false 1 [jv_r 11 0] h Q := by
  show jx_W (jm_MD_behindUnit, d + 6, 0, 0, false, 1, _) Q 0 0 0 [some (jv_r 11 0), none] [] _
  obtain ⟨xt, xm, xg, xb, xu, xv, xc, xC, xN, xl, xP, xi⟩ := hx
  have xl2 : jh_I h 11 0 47 = nI (P.length + 1) := xl
  have hp := @jT_p_le B sz t
  have hsz := xt.2.1
  have xw := xP.2.1
  refine jr_aload rfl rfl ?_
  refine jr_cv0 (mc' := 0) (ms' := 0) rfl jm_MD_rankHere_n jm_MD_rankHere_f rfl rfl rfl rfl rfl rfl rfl (Nat.zero_le _) (Nat.zero_le _) ?_
  refine eM_rankHere xt xm ?_
  refine jr_ist1 rfl rfl ?_
  refine jr_iload rfl rfl ?_
  refine jr_ic rfl ?_
  refine jr_icmp_ne rfl (fun c5 => ?_) (fun c5 => ?_)
  · exact k2 (fun z => absurd (by rw [z]; rfl) c5) _
  · refine jr_aload rfl rfl ?_
    refine jr_cv0 (mc' := 0) (ms' := 0) rfl jm_MD_isCompared_n jm_MD_isCompared_f rfl rfl rfl rfl rfl rfl rfl (Nat.zero_le _) (Nat.zero_le _) ?_
    refine eM_isCmp xl2 xP hb hP ?_
    refine jr_if_eq rfl (fun c8 => ?_) (fun c8 => ?_)
    · exact k2 (fun _ => by rw [Bool.eq_false_iff]; exact jf_n c8) _
    · refine jr_aload rfl rfl ?_
      refine jr_cv0 (mc' := 0) (ms' := 0) rfl jm_MD_misplaced_n jm_MD_misplaced_f rfl rfl rfl rfl rfl rfl rfl (Nat.zero_le _) (Nat.zero_le _) ?_
      refine eM_misplaced xg xm (fun h1 g1 => ?_)
      refine jr_ic rfl ?_
      refine jr_zret rfl rfl rfl (Nat.zero_le _) (Nat.zero_le _) ?_
      exact k1 (jn_eq (show nI (jT_rk (jT_K B sz t)) = nI 4 from c5) (by have := jT_rk_lt (jT_K B sz t); omega) (by decide)) (jf_p c8) h1 g1

set_option maxHeartbeats 800000 in
set_option maxRecDepth 100000 in
theorem eM_pop {d n1 : Nat} {Q : Option jx_V → jx_H → Prop} {h : jx_H} {B : Nat → Int32} {sz β t u v c : Nat} {C N : Nat → Int32} {P : List (Nat × Int32)} {i w : Nat} {s : Int32}  (hx : jX h B sz β t u v c C N ((w, s) :: P) i) (hβ : β < 2) (hP : P.length < 60) (hw6 : w ≤ 6) (hw3 : w ≠ 3) (hr : jT_rk (jT_K B sz t) ≤ w) (hc : c < 620) (k : ∀ h' : jx_H, jX h' B sz β t u v (c + 1) (upd C (620 * β + c) s) (upd N (620 * β + c) 0) P i → jX_F β h h' → jx_W (jm_MD_behindUnit, d + 6, 0, 0, false, 1, n1) Q 0 0 13 [some (jv_r 11 0), some (jv_i (nI (jT_rk (jT_K B sz t))))] [] h')  : jx_W (jm_MD_behindUnit, d + 6, 0, 0, false, 1, n1) Q 0 0 13 [some (jv_r 11 0), some (jv_i (nI (jT_rk (jT_K B sz t))))] [] h := by
  obtain ⟨xt, xm, xg, xb, xu, xv, xc, xC, xN, xl, xP, xi⟩ := hx
  have xl2 : jh_I h 11 0 47 = nI (P.length + 1) := xl
  have hp := @jT_p_le B sz t
  have hsz := xt.2.1
  have xw := xP.2.1
  refine jr_aload rfl rfl ?_
  refine jr_getR rfl rfl rfl rfl (Or.inl rfl) ?_
  refine jr_aload rfl rfl ?_
  refine jr_getI rfl rfl ?_
  refine jr_ic rfl ?_
  refine jr_isub rfl ?_
  refine jr_iald (len := 90) rfl rfl (jn_sub xl2 (show _ = nI 1 from rfl) (by omega)) (by omega) ?_
  rw [show jh_I h 95 0 (P.length + 1 - 1) = nI w from xP.1]
  refine jr_ic rfl ?_
  refine jr_icmp_gt rfl (fun z => absurd z (nI_nlt (a := 6) (b := w) (by omega) (by decide))) (fun _ => ?_)
  refine jr_aload rfl rfl ?_
  refine jr_getR rfl rfl rfl rfl (Or.inl rfl) ?_
  refine jr_aload rfl rfl ?_
  refine jr_getI rfl rfl ?_
  refine jr_ic rfl ?_
  refine jr_isub rfl ?_
  refine jr_iald (len := 90) rfl rfl (jn_sub xl2 (show _ = nI 1 from rfl) (by omega)) (by omega) ?_
  rw [show jh_I h 95 0 (P.length + 1 - 1) = nI w from xP.1]
  refine jr_iload rfl rfl ?_
  refine jr_icmp_lt rfl (fun z => absurd z (nI_nlt (by omega) (by omega))) (fun _ => ?_)
  refine jr_aload rfl rfl ?_
  refine jr_dup_r rfl ?_
  refine jr_getI rfl rfl ?_
  refine jr_ic rfl ?_
  refine jr_isub rfl ?_
  refine jr_putI rfl rfl ?_
  have h47 : jh_I (ju_I h 11 0 (upd (jh_I h 11 0) 47 (jh_I h 11 0 47 - 1))) 11 0 47 = nI P.length := (show jh_I h 11 0 47 - 1 = nI P.length from jn_sub xl2 (jn_c 1) (by omega))
  refine jr_aload rfl rfl ?_
  refine jr_getR rfl rfl rfl rfl (Or.inl rfl) ?_
  refine jr_aload rfl rfl ?_
  refine jr_getI rfl rfl ?_
  refine jr_iald (len := 90) rfl rfl h47 (by omega) ?_
  rw [show jh_I (ju_I h 11 0 (upd (jh_I h 11 0) 47 (jh_I h 11 0 47 - 1))) 95 0 P.length = nI w from xP.1]
  refine jr_ic rfl ?_
  refine jr_icmp_ne rfl (fun _ => ?_) (fun z => absurd z (fun z => hw3 (jn_eq (show nI w = nI 3 from z) (by omega) (by decide))))
  refine jr_aload rfl rfl ?_
  refine jr_aload rfl rfl ?_
  refine jr_getR rfl rfl rfl rfl (Or.inl rfl) ?_
  refine jr_aload rfl rfl ?_
  refine jr_getI rfl rfl ?_
  refine jr_iald (len := 90) rfl rfl h47 (by omega) ?_
  refine jr_ic rfl ?_
  refine jr_cv2 (mc' := 0) (ms' := 0) rfl jm_MD_emit_n jm_MD_emit_f rfl rfl rfl rfl rfl rfl rfl (Nat.zero_le _) (Nat.zero_le _) ?_
  show jx_W (jm_MD_emit, _, _, _, _, _, _) _ 0 0 0 [some _, some _, some _] [] _
  refine jr_aload rfl rfl ?_
  refine jr_getR rfl rfl rfl rfl (Or.inl rfl) ?_
  refine jr_aload rfl rfl ?_
  refine jr_getI rfl rfl ?_
  refine jr_iload rfl rfl ?_
  refine jr_iast (len := 1240) rfl rfl xc (by omega) ?_
  refine jr_aload rfl rfl ?_
  refine jr_getR rfl rfl rfl rfl (Or.inl rfl) ?_
  refine jr_aload rfl rfl ?_
  refine jr_getI rfl rfl ?_
  refine jr_iload rfl rfl ?_
  refine jr_iast (len := 1240) rfl rfl xc (by omega) ?_
  refine jr_aload rfl rfl ?_
  refine jr_dup_r rfl ?_
  refine jr_getI rfl rfl ?_
  refine jr_ic rfl ?_
  refine jr_iadd rfl ?_
  refine jr_putI rfl rfl ?_
  refine jr_vret rfl rfl (Nat.zero_le _) (Nat.zero_le _) ?_
  refine jr_goto rfl ?_
  refine k _ ⟨?_, ?_, ?_, ?_, ?_, ?_, ?_, ?_, ?_, ?_, ?_, ?_⟩ ?_
  · exact ⟨xt.1, hsz, xt.2.2⟩
  · exact ⟨xm.1, xm.2.1, xm.2.2.1, xm.2.2.2.1, xm.2.2.2.2⟩
  · exact xg
  · exact xb
  · exact xu
  · exact xv
  · show upd (upd (jh_I h 11 0) 47 (jh_I h 11 0 47 - 1)) 45 (jh_I h 11 0 45 + 1) 45 = _
    rw [jg_us, xc, jn_S]
    rfl
  · show upd (jh_I h 93 0) (620 * β + c) _ = _
    rw [xC]
    exact congrArg (upd C (620 * β + c)) xP.2.2.1
  · show upd (jh_I h 94 0) (620 * β + c) _ = _
    rw [xN]
  · show upd (upd (jh_I h 11 0) 47 (jh_I h 11 0 47 - 1)) 45 (jh_I h 11 0 45 + 1) 47 = _
    rw [jg_un (by decide), jg_us]; exact jn_sub xl2 (jn_c 1) (by omega)
  · exact xP.2.2.2
  · exact xi
  · refine ⟨fun a b z1 z2 z3 z4 z5 z6 => ?_, fun a b z1 => rfl, rfl, fun f hf => ?_, fun q hq => rfl⟩
    · exact (if_neg (fun y => z1 y.1)).trans ((if_neg (fun y => z4 y.1)).trans ((if_neg (fun y => z3 y.1)).trans (if_neg (fun y => z1 y.1))))
    · exact (jg_un (by omega)).trans (jg_un (by omega))

set_option maxHeartbeats 800000 in
set_option maxRecDepth 100000 in
theorem eM_popn {d n1 : Nat} {Q : Option jx_V → jx_H → Prop} {h : jx_H} {B : Nat → Int32} {sz β t u v c : Nat} {C N : Nat → Int32} {P : List (Nat × Int32)} {i w : Nat} {s : Int32}  (hx : jX h B sz β t u v c C N ((w, s) :: P) i) (hβ : β < 2) (hP : P.length < 60) (hw3 : w = 3) (hi1 : 1 ≤ i) (hr : jT_rk (jT_K B sz t) ≤ w) (hc : c < 620) (k : ∀ h' : jx_H, jX h' B sz β t u v (c + 1) (upd C (620 * β + c) s) (upd N (620 * β + c) 0) P (i - 1) → jX_F β h h' → jx_W (jm_MD_behindUnit, d + 6, 0, 0, false, 1, n1) Q 0 0 13 [some (jv_r 11 0), some (jv_i (nI (jT_rk (jT_K B sz t))))] [] h')  : jx_W (jm_MD_behindUnit, d + 6, 0, 0, false, 1, n1) Q 0 0 13 [some (jv_r 11 0), some (jv_i (nI (jT_rk (jT_K B sz t))))] [] h := by
  obtain ⟨xt, xm, xg, xb, xu, xv, xc, xC, xN, xl, xP, xi⟩ := hx
  have xl2 : jh_I h 11 0 47 = nI (P.length + 1) := xl
  have hp := @jT_p_le B sz t
  have hsz := xt.2.1
  have xw := xP.2.1
  refine jr_aload rfl rfl ?_
  refine jr_getR rfl rfl rfl rfl (Or.inl rfl) ?_
  refine jr_aload rfl rfl ?_
  refine jr_getI rfl rfl ?_
  refine jr_ic rfl ?_
  refine jr_isub rfl ?_
  refine jr_iald (len := 90) rfl rfl (jn_sub xl2 (show _ = nI 1 from rfl) (by omega)) (by omega) ?_
  rw [show jh_I h 95 0 (P.length + 1 - 1) = nI w from xP.1]
  refine jr_ic rfl ?_
  refine jr_icmp_gt rfl (fun z => absurd z (nI_nlt (a := 6) (b := w) (by omega) (by decide))) (fun _ => ?_)
  refine jr_aload rfl rfl ?_
  refine jr_getR rfl rfl rfl rfl (Or.inl rfl) ?_
  refine jr_aload rfl rfl ?_
  refine jr_getI rfl rfl ?_
  refine jr_ic rfl ?_
  refine jr_isub rfl ?_
  refine jr_iald (len := 90) rfl rfl (jn_sub xl2 (show _ = nI 1 from rfl) (by omega)) (by omega) ?_
  rw [show jh_I h 95 0 (P.length + 1 - 1) = nI w from xP.1]
  refine jr_iload rfl rfl ?_
  refine jr_icmp_lt rfl (fun z => absurd z (nI_nlt (by omega) (by omega))) (fun _ => ?_)
  refine jr_aload rfl rfl ?_
  refine jr_dup_r rfl ?_
  refine jr_getI rfl rfl ?_
  refine jr_ic rfl ?_
  refine jr_isub rfl ?_
  refine jr_putI rfl rfl ?_
  have h47 : jh_I (ju_I h 11 0 (upd (jh_I h 11 0) 47 (jh_I h 11 0 47 - 1))) 11 0 47 = nI P.length := (show jh_I h 11 0 47 - 1 = nI P.length from jn_sub xl2 (jn_c 1) (by omega))
  refine jr_aload rfl rfl ?_
  refine jr_getR rfl rfl rfl rfl (Or.inl rfl) ?_
  refine jr_aload rfl rfl ?_
  refine jr_getI rfl rfl ?_
  refine jr_iald (len := 90) rfl rfl h47 (by omega) ?_
  rw [show jh_I (ju_I h 11 0 (upd (jh_I h 11 0) 47 (jh_I h 11 0 47 - 1))) 95 0 P.length = nI w from xP.1]
  refine jr_ic rfl ?_
  refine jr_icmp_ne rfl (fun z => absurd (show nI w = 3 by rw [hw3]; rfl) z) (fun _ => ?_)
  refine jr_aload rfl rfl ?_
  refine jr_dup_r rfl ?_
  refine jr_getI rfl rfl ?_
  refine jr_ic rfl ?_
  refine jr_isub rfl ?_
  refine jr_putI rfl rfl ?_
  refine jr_aload rfl rfl ?_
  refine jr_aload rfl rfl ?_
  refine jr_getR rfl rfl rfl rfl (Or.inl rfl) ?_
  refine jr_aload rfl rfl ?_
  refine jr_getI rfl rfl ?_
  refine jr_iald (len := 90) rfl rfl h47 (by omega) ?_
  refine jr_ic rfl ?_
  refine jr_cv2 (mc' := 0) (ms' := 0) rfl jm_MD_emit_n jm_MD_emit_f rfl rfl rfl rfl rfl rfl rfl (Nat.zero_le _) (Nat.zero_le _) ?_
  show jx_W (jm_MD_emit, _, _, _, _, _, _) _ 0 0 0 [some _, some _, some _] [] _
  refine jr_aload rfl rfl ?_
  refine jr_getR rfl rfl rfl rfl (Or.inl rfl) ?_
  refine jr_aload rfl rfl ?_
  refine jr_getI rfl rfl ?_
  refine jr_iload rfl rfl ?_
  refine jr_iast (len := 1240) rfl rfl xc (by omega) ?_
  refine jr_aload rfl rfl ?_
  refine jr_getR rfl rfl rfl rfl (Or.inl rfl) ?_
  refine jr_aload rfl rfl ?_
  refine jr_getI rfl rfl ?_
  refine jr_iload rfl rfl ?_
  refine jr_iast (len := 1240) rfl rfl xc (by omega) ?_
  refine jr_aload rfl rfl ?_
  refine jr_dup_r rfl ?_
  refine jr_getI rfl rfl ?_
  refine jr_ic rfl ?_
  refine jr_iadd rfl ?_
  refine jr_putI rfl rfl ?_
  refine jr_vret rfl rfl (Nat.zero_le _) (Nat.zero_le _) ?_
  refine jr_goto rfl ?_
  refine k _ ⟨?_, ?_, ?_, ?_, ?_, ?_, ?_, ?_, ?_, ?_, ?_, ?_⟩ ?_
  · exact ⟨xt.1, hsz, xt.2.2⟩
  · exact ⟨xm.1, xm.2.1, xm.2.2.1, xm.2.2.2.1, xm.2.2.2.2⟩
  · exact xg
  · exact xb
  · exact xu
  · exact xv
  · show upd (upd (upd (jh_I h 11 0) 47 (jh_I h 11 0 47 - 1)) 46 (jh_I h 11 0 46 - 1)) 45 (jh_I h 11 0 45 + 1) 45 = _
    rw [jg_us, xc, jn_S]
    rfl
  · show upd (jh_I h 93 0) (620 * β + c) _ = _
    rw [xC]
    exact congrArg (upd C (620 * β + c)) xP.2.2.1
  · show upd (jh_I h 94 0) (620 * β + c) _ = _
    rw [xN]
  · show upd (upd (upd (jh_I h 11 0) 47 (jh_I h 11 0 47 - 1)) 46 (jh_I h 11 0 46 - 1)) 45 (jh_I h 11 0 45 + 1) 47 = _
    rw [jg_un (by decide), jg_un (by decide), jg_us]; exact jn_sub xl2 (jn_c 1) (by omega)
  · exact xP.2.2.2
  · show upd (upd (upd (jh_I h 11 0) 47 (jh_I h 11 0 47 - 1)) 46 (jh_I h 11 0 46 - 1)) 45 (jh_I h 11 0 45 + 1) 46 = _
    rw [jg_un (by decide), jg_us]; exact jn_sub xi (jn_c 1) (by omega)
  · refine ⟨fun a b z1 z2 z3 z4 z5 z6 => ?_, fun a b z1 => rfl, rfl, fun f hf => ?_, fun q hq => rfl⟩
    · exact (if_neg (fun y => z1 y.1)).trans ((if_neg (fun y => z4 y.1)).trans ((if_neg (fun y => z3 y.1)).trans ((if_neg (fun y => z1 y.1)).trans (if_neg (fun y => z1 y.1)))))
    · exact (jg_un (by omega)).trans ((jg_un (by omega)).trans (jg_un (by omega)))

def jT_sgn (k : Nat) : Int32 := if k = 119 then 38 else if k = 127 then 124 else nI k
theorem jT_rk2 {k : Nat} : jT_rk k = 2 ↔ k = 119 := by
  unfold jT_rk
  repeat' split
  all_goals omega
theorem jT_rk1 {k : Nat} : jT_rk k = 1 ↔ k = 127 := by
  unfold jT_rk
  repeat' split
  all_goals omega
theorem jT_rk_sg {k : Nat} (h : 0 < jT_rk k) (h1 : k ≠ 119) (h2 : k ≠ 127) : 3 < k ∧ k < 100 := by
  unfold jT_rk at h
  repeat' split at h
  all_goals omega
set_option maxHeartbeats 800000 in
set_option maxRecDepth 100000 in
theorem eM_push {d n1 : Nat} {Q : Option jx_V → jx_H → Prop} {h : jx_H} {B : Nat → Int32} {sz β t u v c : Nat} {C N : Nat → Int32} {P : List (Nat × Int32)} {i w : Nat} {s : Int32}  (hx : jX h B sz β t u v c C N ((w, s) :: P) i) (hβ : β < 2) (hP : P.length < 60) (hw : 7 ≤ w ∨ w < jT_rk (jT_K B sz t)) (hr : 0 < jT_rk (jT_K B sz t)) (k : ∀ h' : jx_H, jX h' B sz β (t + 1) u v c C N ((jT_rk (jT_K B sz t), jT_sgn (jT_K B sz t)) :: (w, s) :: P) i → jX_F β h h' → Q (some (jv_i 1)) h')  : jx_W (jm_MD_behindUnit, d + 6, 0, 0, false, 1, n1) Q 0 0 13 [some (jv_r 11 0), some (jv_i (nI (jT_rk (jT_K B sz t))))] [] h := by
  obtain ⟨xt, xm, xg, xb, xu, xv, xc, xC, xN, xl, xP, xi⟩ := hx
  have xl2 : jh_I h 11 0 47 = nI (P.length + 1) := xl
  have hp := @jT_p_le B sz t
  have hsz := xt.2.1
  have xw := xP.2.1
  refine jr_aload rfl rfl ?_
  refine jr_getR rfl rfl rfl rfl (Or.inl rfl) ?_
  refine jr_aload rfl rfl ?_
  refine jr_getI rfl rfl ?_
  refine jr_ic rfl ?_
  refine jr_isub rfl ?_
  refine jr_iald (len := 90) rfl rfl (jn_sub xl2 (show _ = nI 1 from rfl) (by omega)) (by omega) ?_
  rw [show jh_I h 95 0 (P.length + 1 - 1) = nI w from xP.1]
  refine jr_ic rfl ?_
  refine jr_icmp_gt rfl (fun c21 => ?_) (fun c21 => ?_)
  · refine jr_iload rfl rfl ?_
    refine jr_if_le rfl (fun z => absurd z (nI_nle hr (by have := jT_rk_lt (jT_K B sz t); omega))) (fun _ => ?_)
    refine jr_aload rfl rfl ?_
    refine jr_iload rfl rfl ?_
    refine jr_iload rfl rfl ?_
    refine jr_ic rfl ?_
    refine jr_icmp_ne rfl (fun c65 => ?_) (fun c65 => ?_)
    · refine jr_iload rfl rfl ?_
      refine jr_ic rfl ?_
      refine jr_icmp_ne rfl (fun c70 => ?_) (fun c70 => ?_)
      · refine jr_aload rfl rfl ?_
        refine jr_aload rfl rfl ?_
        refine jr_getI rfl rfl ?_
        rw [xm.1]
        refine jr_cv1 (mc' := 0) (ms' := 0) rfl jm_MD_sign_n jm_MD_sign_f rfl rfl rfl rfl rfl rfl rfl (Nat.zero_le _) (Nat.zero_le _) ?_
        refine eM_sign0 (B := B) xt (by omega) ?_
        refine jr_cv2 (mc' := 0) (ms' := 0) rfl jm_MD_pushE_n jm_MD_pushE_f rfl rfl rfl rfl rfl rfl rfl (Nat.zero_le _) (Nat.zero_le _) ?_
        show jx_W (jm_MD_pushE, _, _, _, _, _, _) _ 0 0 0 [some _, some _, some _] [] _
        refine jr_aload rfl rfl ?_
        refine jr_getR rfl rfl rfl rfl (Or.inl rfl) ?_
        refine jr_aload rfl rfl ?_
        refine jr_getI rfl rfl ?_
        refine jr_iload rfl rfl ?_
        refine jr_iast (len := 90) rfl rfl xl2 (by omega) ?_
        refine jr_aload rfl rfl ?_
        refine jr_getR rfl rfl rfl rfl (Or.inl rfl) ?_
        refine jr_aload rfl rfl ?_
        refine jr_getI rfl rfl ?_
        refine jr_iload rfl rfl ?_
        refine jr_iast (len := 90) rfl rfl xl2 (by omega) ?_
        refine jr_aload rfl rfl ?_
        refine jr_dup_r rfl ?_
        refine jr_getI rfl rfl ?_
        refine jr_ic rfl ?_
        refine jr_iadd rfl ?_
        refine jr_putI rfl rfl ?_
        refine jr_vret rfl rfl (Nat.zero_le _) (Nat.zero_le _) ?_
        refine jr_aload rfl rfl ?_
        refine jr_cv0 (mc' := 0) (ms' := 0) rfl jm_MD_goOn_n jm_MD_goOn_f rfl rfl rfl rfl rfl rfl rfl (Nat.zero_le _) (Nat.zero_le _) ?_
        refine eM_goOn (B := B) (sz := sz) (t := t + 1) xt.1 xt.2.1 xt.2.2.1 xm.2.1 (fun h1 g1 m1 => ?_)
        refine jr_ic rfl ?_
        refine jr_zret rfl rfl rfl (Nat.zero_le _) (Nat.zero_le _) ?_
        refine k _ ⟨?_, m1, ?_, ?_, ?_, ?_, ?_, ?_, ?_, ?_, ?_, ?_⟩ ?_
        · exact ⟨(g1.2.2.2 3 (by decide)).trans xt.1, hsz, (congrArg (fun z => jT_c z sz) (g1.1 65 0 (by decide))).trans xt.2.2.1, (g1.2.2.2 5 (by decide)).trans xt.2.2.2⟩
        · exact (g1.2.2.2 4 (by decide)).trans xg
        · exact (g1.2.2.2 44 (by decide)).trans xb
        · exact (congrFun (g1.1 69 0 (by decide)) β).trans xu
        · exact (g1.2.2.2 48 (by decide)).trans xv
        · exact (g1.2.2.2 45 (by decide)).trans xc
        · exact (g1.1 93 0 (by decide)).trans xC
        · exact (g1.1 94 0 (by decide)).trans xN
        · refine (g1.2.2.2 47 (by decide)).trans ?_
          show upd (jh_I h 11 0) 47 (jh_I h 11 0 47 + 1) 47 = _
          rw [jg_us, xl2, jn_S]
          rfl
        · have e95 := g1.1 95 0 (by decide)
          have e96 := g1.1 96 0 (by decide)
          refine ⟨?_, by have := jT_rk_lt (jT_K B sz t); omega, ?_, jp_ok_e (P := (w, s) :: P) xP (fun q hq => ?_)⟩
          · exact (congrFun e95 _).trans (jg_us _ _ _)
          · refine (congrFun e96 _).trans ((jg_us _ _ _).trans ?_)
            have n1 : jT_K B sz t ≠ 119 := fun z => c65 (by rw [show nI (jT_rk (jT_K B sz t)) = nI 2 from congrArg nI (jT_rk2.mpr z)]; rfl)
            have n2 : jT_K B sz t ≠ 127 := fun z => c70 (by rw [show nI (jT_rk (jT_K B sz t)) = nI 1 from congrArg nI (jT_rk1.mpr z)]; rfl)
            have r3 := jT_rk_sg hr n1 n2
            show nI (jT_c B sz (jT_p B sz t)) = _; unfold jT_sgn; rw [if_neg n1, if_neg n2]; exact congrArg nI (jT_k_sign r3.1 r3.2).2.1.symm
          · have hq2 : q < P.length + 1 := hq
            have hq3 : q ≠ P.length + 1 := by omega
            exact ⟨(congrFun e95 q).trans (jg_un hq3), (congrFun e96 q).trans (jg_un hq3)⟩
        · exact (g1.2.2.2 46 (by decide)).trans xi
        · refine ⟨fun a b z1 z2 z3 z4 z5 z6 => ?_, fun a b z1 => g1.2.1 a b z1, g1.2.2.1, fun f hf => ?_, fun q hq => congrFun (g1.1 69 0 (by decide)) q⟩
          · refine (g1.1 a b z1).trans ?_
            exact (if_neg (fun y => z1 y.1)).trans ((if_neg (fun y => z6 y.1)).trans (if_neg (fun y => z5 y.1)))
          · refine (g1.2.2.2 f (by omega)).trans ?_
            exact jg_un (by omega)
      · refine jr_ic rfl ?_
        refine jr_goto rfl ?_
        refine jr_cv2 (mc' := 0) (ms' := 0) rfl jm_MD_pushE_n jm_MD_pushE_f rfl rfl rfl rfl rfl rfl rfl (Nat.zero_le _) (Nat.zero_le _) ?_
        show jx_W (jm_MD_pushE, _, _, _, _, _, _) _ 0 0 0 [some _, some _, some _] [] _
        refine jr_aload rfl rfl ?_
        refine jr_getR rfl rfl rfl rfl (Or.inl rfl) ?_
        refine jr_aload rfl rfl ?_
        refine jr_getI rfl rfl ?_
        refine jr_iload rfl rfl ?_
        refine jr_iast (len := 90) rfl rfl xl2 (by omega) ?_
        refine jr_aload rfl rfl ?_
        refine jr_getR rfl rfl rfl rfl (Or.inl rfl) ?_
        refine jr_aload rfl rfl ?_
        refine jr_getI rfl rfl ?_
        refine jr_iload rfl rfl ?_
        refine jr_iast (len := 90) rfl rfl xl2 (by omega) ?_
        refine jr_aload rfl rfl ?_
        refine jr_dup_r rfl ?_
        refine jr_getI rfl rfl ?_
        refine jr_ic rfl ?_
        refine jr_iadd rfl ?_
        refine jr_putI rfl rfl ?_
        refine jr_vret rfl rfl (Nat.zero_le _) (Nat.zero_le _) ?_
        refine jr_aload rfl rfl ?_
        refine jr_cv0 (mc' := 0) (ms' := 0) rfl jm_MD_goOn_n jm_MD_goOn_f rfl rfl rfl rfl rfl rfl rfl (Nat.zero_le _) (Nat.zero_le _) ?_
        refine eM_goOn (B := B) (sz := sz) (t := t + 1) xt.1 xt.2.1 xt.2.2.1 xm.2.1 (fun h1 g1 m1 => ?_)
        refine jr_ic rfl ?_
        refine jr_zret rfl rfl rfl (Nat.zero_le _) (Nat.zero_le _) ?_
        refine k _ ⟨?_, m1, ?_, ?_, ?_, ?_, ?_, ?_, ?_, ?_, ?_, ?_⟩ ?_
        · exact ⟨(g1.2.2.2 3 (by decide)).trans xt.1, hsz, (congrArg (fun z => jT_c z sz) (g1.1 65 0 (by decide))).trans xt.2.2.1, (g1.2.2.2 5 (by decide)).trans xt.2.2.2⟩
        · exact (g1.2.2.2 4 (by decide)).trans xg
        · exact (g1.2.2.2 44 (by decide)).trans xb
        · exact (congrFun (g1.1 69 0 (by decide)) β).trans xu
        · exact (g1.2.2.2 48 (by decide)).trans xv
        · exact (g1.2.2.2 45 (by decide)).trans xc
        · exact (g1.1 93 0 (by decide)).trans xC
        · exact (g1.1 94 0 (by decide)).trans xN
        · refine (g1.2.2.2 47 (by decide)).trans ?_
          show upd (jh_I h 11 0) 47 (jh_I h 11 0 47 + 1) 47 = _
          rw [jg_us, xl2, jn_S]
          rfl
        · have e95 := g1.1 95 0 (by decide)
          have e96 := g1.1 96 0 (by decide)
          refine ⟨?_, by have := jT_rk_lt (jT_K B sz t); omega, ?_, jp_ok_e (P := (w, s) :: P) xP (fun q hq => ?_)⟩
          · exact (congrFun e95 _).trans (jg_us _ _ _)
          · refine (congrFun e96 _).trans ((jg_us _ _ _).trans ?_)
            have z := jT_rk1.mp (jn_eq (show nI (jT_rk (jT_K B sz t)) = nI 1 from c70) (by have := jT_rk_lt (jT_K B sz t); omega) (by decide))
            show (124 : Int32) = _; unfold jT_sgn; rw [if_neg (by omega), if_pos z]
          · have hq2 : q < P.length + 1 := hq
            have hq3 : q ≠ P.length + 1 := by omega
            exact ⟨(congrFun e95 q).trans (jg_un hq3), (congrFun e96 q).trans (jg_un hq3)⟩
        · exact (g1.2.2.2 46 (by decide)).trans xi
        · refine ⟨fun a b z1 z2 z3 z4 z5 z6 => ?_, fun a b z1 => g1.2.1 a b z1, g1.2.2.1, fun f hf => ?_, fun q hq => congrFun (g1.1 69 0 (by decide)) q⟩
          · refine (g1.1 a b z1).trans ?_
            exact (if_neg (fun y => z1 y.1)).trans ((if_neg (fun y => z6 y.1)).trans (if_neg (fun y => z5 y.1)))
          · refine (g1.2.2.2 f (by omega)).trans ?_
            exact jg_un (by omega)
    · refine jr_ic rfl ?_
      refine jr_goto rfl ?_
      refine jr_cv2 (mc' := 0) (ms' := 0) rfl jm_MD_pushE_n jm_MD_pushE_f rfl rfl rfl rfl rfl rfl rfl (Nat.zero_le _) (Nat.zero_le _) ?_
      show jx_W (jm_MD_pushE, _, _, _, _, _, _) _ 0 0 0 [some _, some _, some _] [] _
      refine jr_aload rfl rfl ?_
      refine jr_getR rfl rfl rfl rfl (Or.inl rfl) ?_
      refine jr_aload rfl rfl ?_
      refine jr_getI rfl rfl ?_
      refine jr_iload rfl rfl ?_
      refine jr_iast (len := 90) rfl rfl xl2 (by omega) ?_
      refine jr_aload rfl rfl ?_
      refine jr_getR rfl rfl rfl rfl (Or.inl rfl) ?_
      refine jr_aload rfl rfl ?_
      refine jr_getI rfl rfl ?_
      refine jr_iload rfl rfl ?_
      refine jr_iast (len := 90) rfl rfl xl2 (by omega) ?_
      refine jr_aload rfl rfl ?_
      refine jr_dup_r rfl ?_
      refine jr_getI rfl rfl ?_
      refine jr_ic rfl ?_
      refine jr_iadd rfl ?_
      refine jr_putI rfl rfl ?_
      refine jr_vret rfl rfl (Nat.zero_le _) (Nat.zero_le _) ?_
      refine jr_aload rfl rfl ?_
      refine jr_cv0 (mc' := 0) (ms' := 0) rfl jm_MD_goOn_n jm_MD_goOn_f rfl rfl rfl rfl rfl rfl rfl (Nat.zero_le _) (Nat.zero_le _) ?_
      refine eM_goOn (B := B) (sz := sz) (t := t + 1) xt.1 xt.2.1 xt.2.2.1 xm.2.1 (fun h1 g1 m1 => ?_)
      refine jr_ic rfl ?_
      refine jr_zret rfl rfl rfl (Nat.zero_le _) (Nat.zero_le _) ?_
      refine k _ ⟨?_, m1, ?_, ?_, ?_, ?_, ?_, ?_, ?_, ?_, ?_, ?_⟩ ?_
      · exact ⟨(g1.2.2.2 3 (by decide)).trans xt.1, hsz, (congrArg (fun z => jT_c z sz) (g1.1 65 0 (by decide))).trans xt.2.2.1, (g1.2.2.2 5 (by decide)).trans xt.2.2.2⟩
      · exact (g1.2.2.2 4 (by decide)).trans xg
      · exact (g1.2.2.2 44 (by decide)).trans xb
      · exact (congrFun (g1.1 69 0 (by decide)) β).trans xu
      · exact (g1.2.2.2 48 (by decide)).trans xv
      · exact (g1.2.2.2 45 (by decide)).trans xc
      · exact (g1.1 93 0 (by decide)).trans xC
      · exact (g1.1 94 0 (by decide)).trans xN
      · refine (g1.2.2.2 47 (by decide)).trans ?_
        show upd (jh_I h 11 0) 47 (jh_I h 11 0 47 + 1) 47 = _
        rw [jg_us, xl2, jn_S]
        rfl
      · have e95 := g1.1 95 0 (by decide)
        have e96 := g1.1 96 0 (by decide)
        refine ⟨?_, by have := jT_rk_lt (jT_K B sz t); omega, ?_, jp_ok_e (P := (w, s) :: P) xP (fun q hq => ?_)⟩
        · exact (congrFun e95 _).trans (jg_us _ _ _)
        · refine (congrFun e96 _).trans ((jg_us _ _ _).trans ?_)
          show (38 : Int32) = _; unfold jT_sgn; rw [if_pos (jT_rk2.mp (jn_eq (show nI (jT_rk (jT_K B sz t)) = nI 2 from c65) (by have := jT_rk_lt (jT_K B sz t); omega) (by decide)))]
        · have hq2 : q < P.length + 1 := hq
          have hq3 : q ≠ P.length + 1 := by omega
          exact ⟨(congrFun e95 q).trans (jg_un hq3), (congrFun e96 q).trans (jg_un hq3)⟩
      · exact (g1.2.2.2 46 (by decide)).trans xi
      · refine ⟨fun a b z1 z2 z3 z4 z5 z6 => ?_, fun a b z1 => g1.2.1 a b z1, g1.2.2.1, fun f hf => ?_, fun q hq => congrFun (g1.1 69 0 (by decide)) q⟩
        · refine (g1.1 a b z1).trans ?_
          exact (if_neg (fun y => z1 y.1)).trans ((if_neg (fun y => z6 y.1)).trans (if_neg (fun y => z5 y.1)))
        · refine (g1.2.2.2 f (by omega)).trans ?_
          exact jg_un (by omega)
  · refine jr_aload rfl rfl ?_
    refine jr_getR rfl rfl rfl rfl (Or.inl rfl) ?_
    refine jr_aload rfl rfl ?_
    refine jr_getI rfl rfl ?_
    refine jr_ic rfl ?_
    refine jr_isub rfl ?_
    refine jr_iald (len := 90) rfl rfl (jn_sub xl2 (show _ = nI 1 from rfl) (by omega)) (by omega) ?_
    rw [show jh_I h 95 0 (P.length + 1 - 1) = nI w from xP.1]
    refine jr_iload rfl rfl ?_
    refine jr_icmp_lt rfl (fun c30 => ?_) (fun c30 => ?_)
    · refine jr_iload rfl rfl ?_
      refine jr_if_le rfl (fun z => absurd z (nI_nle hr (by have := jT_rk_lt (jT_K B sz t); omega))) (fun _ => ?_)
      refine jr_aload rfl rfl ?_
      refine jr_iload rfl rfl ?_
      refine jr_iload rfl rfl ?_
      refine jr_ic rfl ?_
      refine jr_icmp_ne rfl (fun c65 => ?_) (fun c65 => ?_)
      · refine jr_iload rfl rfl ?_
        refine jr_ic rfl ?_
        refine jr_icmp_ne rfl (fun c70 => ?_) (fun c70 => ?_)
        · refine jr_aload rfl rfl ?_
          refine jr_aload rfl rfl ?_
          refine jr_getI rfl rfl ?_
          rw [xm.1]
          refine jr_cv1 (mc' := 0) (ms' := 0) rfl jm_MD_sign_n jm_MD_sign_f rfl rfl rfl rfl rfl rfl rfl (Nat.zero_le _) (Nat.zero_le _) ?_
          refine eM_sign0 (B := B) xt (by omega) ?_
          refine jr_cv2 (mc' := 0) (ms' := 0) rfl jm_MD_pushE_n jm_MD_pushE_f rfl rfl rfl rfl rfl rfl rfl (Nat.zero_le _) (Nat.zero_le _) ?_
          show jx_W (jm_MD_pushE, _, _, _, _, _, _) _ 0 0 0 [some _, some _, some _] [] _
          refine jr_aload rfl rfl ?_
          refine jr_getR rfl rfl rfl rfl (Or.inl rfl) ?_
          refine jr_aload rfl rfl ?_
          refine jr_getI rfl rfl ?_
          refine jr_iload rfl rfl ?_
          refine jr_iast (len := 90) rfl rfl xl2 (by omega) ?_
          refine jr_aload rfl rfl ?_
          refine jr_getR rfl rfl rfl rfl (Or.inl rfl) ?_
          refine jr_aload rfl rfl ?_
          refine jr_getI rfl rfl ?_
          refine jr_iload rfl rfl ?_
          refine jr_iast (len := 90) rfl rfl xl2 (by omega) ?_
          refine jr_aload rfl rfl ?_
          refine jr_dup_r rfl ?_
          refine jr_getI rfl rfl ?_
          refine jr_ic rfl ?_
          refine jr_iadd rfl ?_
          refine jr_putI rfl rfl ?_
          refine jr_vret rfl rfl (Nat.zero_le _) (Nat.zero_le _) ?_
          refine jr_aload rfl rfl ?_
          refine jr_cv0 (mc' := 0) (ms' := 0) rfl jm_MD_goOn_n jm_MD_goOn_f rfl rfl rfl rfl rfl rfl rfl (Nat.zero_le _) (Nat.zero_le _) ?_
          refine eM_goOn (B := B) (sz := sz) (t := t + 1) xt.1 xt.2.1 xt.2.2.1 xm.2.1 (fun h1 g1 m1 => ?_)
          refine jr_ic rfl ?_
          refine jr_zret rfl rfl rfl (Nat.zero_le _) (Nat.zero_le _) ?_
          refine k _ ⟨?_, m1, ?_, ?_, ?_, ?_, ?_, ?_, ?_, ?_, ?_, ?_⟩ ?_
          · exact ⟨(g1.2.2.2 3 (by decide)).trans xt.1, hsz, (congrArg (fun z => jT_c z sz) (g1.1 65 0 (by decide))).trans xt.2.2.1, (g1.2.2.2 5 (by decide)).trans xt.2.2.2⟩
          · exact (g1.2.2.2 4 (by decide)).trans xg
          · exact (g1.2.2.2 44 (by decide)).trans xb
          · exact (congrFun (g1.1 69 0 (by decide)) β).trans xu
          · exact (g1.2.2.2 48 (by decide)).trans xv
          · exact (g1.2.2.2 45 (by decide)).trans xc
          · exact (g1.1 93 0 (by decide)).trans xC
          · exact (g1.1 94 0 (by decide)).trans xN
          · refine (g1.2.2.2 47 (by decide)).trans ?_
            show upd (jh_I h 11 0) 47 (jh_I h 11 0 47 + 1) 47 = _
            rw [jg_us, xl2, jn_S]
            rfl
          · have e95 := g1.1 95 0 (by decide)
            have e96 := g1.1 96 0 (by decide)
            refine ⟨?_, by have := jT_rk_lt (jT_K B sz t); omega, ?_, jp_ok_e (P := (w, s) :: P) xP (fun q hq => ?_)⟩
            · exact (congrFun e95 _).trans (jg_us _ _ _)
            · refine (congrFun e96 _).trans ((jg_us _ _ _).trans ?_)
              have n1 : jT_K B sz t ≠ 119 := fun z => c65 (by rw [show nI (jT_rk (jT_K B sz t)) = nI 2 from congrArg nI (jT_rk2.mpr z)]; rfl)
              have n2 : jT_K B sz t ≠ 127 := fun z => c70 (by rw [show nI (jT_rk (jT_K B sz t)) = nI 1 from congrArg nI (jT_rk1.mpr z)]; rfl)
              have r3 := jT_rk_sg hr n1 n2
              show nI (jT_c B sz (jT_p B sz t)) = _; unfold jT_sgn; rw [if_neg n1, if_neg n2]; exact congrArg nI (jT_k_sign r3.1 r3.2).2.1.symm
            · have hq2 : q < P.length + 1 := hq
              have hq3 : q ≠ P.length + 1 := by omega
              exact ⟨(congrFun e95 q).trans (jg_un hq3), (congrFun e96 q).trans (jg_un hq3)⟩
          · exact (g1.2.2.2 46 (by decide)).trans xi
          · refine ⟨fun a b z1 z2 z3 z4 z5 z6 => ?_, fun a b z1 => g1.2.1 a b z1, g1.2.2.1, fun f hf => ?_, fun q hq => congrFun (g1.1 69 0 (by decide)) q⟩
            · refine (g1.1 a b z1).trans ?_
              exact (if_neg (fun y => z1 y.1)).trans ((if_neg (fun y => z6 y.1)).trans (if_neg (fun y => z5 y.1)))
            · refine (g1.2.2.2 f (by omega)).trans ?_
              exact jg_un (by omega)
        · refine jr_ic rfl ?_
          refine jr_goto rfl ?_
          refine jr_cv2 (mc' := 0) (ms' := 0) rfl jm_MD_pushE_n jm_MD_pushE_f rfl rfl rfl rfl rfl rfl rfl (Nat.zero_le _) (Nat.zero_le _) ?_
          show jx_W (jm_MD_pushE, _, _, _, _, _, _) _ 0 0 0 [some _, some _, some _] [] _
          refine jr_aload rfl rfl ?_
          refine jr_getR rfl rfl rfl rfl (Or.inl rfl) ?_
          refine jr_aload rfl rfl ?_
          refine jr_getI rfl rfl ?_
          refine jr_iload rfl rfl ?_
          refine jr_iast (len := 90) rfl rfl xl2 (by omega) ?_
          refine jr_aload rfl rfl ?_
          refine jr_getR rfl rfl rfl rfl (Or.inl rfl) ?_
          refine jr_aload rfl rfl ?_
          refine jr_getI rfl rfl ?_
          refine jr_iload rfl rfl ?_
          refine jr_iast (len := 90) rfl rfl xl2 (by omega) ?_
          refine jr_aload rfl rfl ?_
          refine jr_dup_r rfl ?_
          refine jr_getI rfl rfl ?_
          refine jr_ic rfl ?_
          refine jr_iadd rfl ?_
          refine jr_putI rfl rfl ?_
          refine jr_vret rfl rfl (Nat.zero_le _) (Nat.zero_le _) ?_
          refine jr_aload rfl rfl ?_
          refine jr_cv0 (mc' := 0) (ms' := 0) rfl jm_MD_goOn_n jm_MD_goOn_f rfl rfl rfl rfl rfl rfl rfl (Nat.zero_le _) (Nat.zero_le _) ?_
          refine eM_goOn (B := B) (sz := sz) (t := t + 1) xt.1 xt.2.1 xt.2.2.1 xm.2.1 (fun h1 g1 m1 => ?_)
          refine jr_ic rfl ?_
          refine jr_zret rfl rfl rfl (Nat.zero_le _) (Nat.zero_le _) ?_
          refine k _ ⟨?_, m1, ?_, ?_, ?_, ?_, ?_, ?_, ?_, ?_, ?_, ?_⟩ ?_
          · exact ⟨(g1.2.2.2 3 (by decide)).trans xt.1, hsz, (congrArg (fun z => jT_c z sz) (g1.1 65 0 (by decide))).trans xt.2.2.1, (g1.2.2.2 5 (by decide)).trans xt.2.2.2⟩
          · exact (g1.2.2.2 4 (by decide)).trans xg
          · exact (g1.2.2.2 44 (by decide)).trans xb
          · exact (congrFun (g1.1 69 0 (by decide)) β).trans xu
          · exact (g1.2.2.2 48 (by decide)).trans xv
          · exact (g1.2.2.2 45 (by decide)).trans xc
          · exact (g1.1 93 0 (by decide)).trans xC
          · exact (g1.1 94 0 (by decide)).trans xN
          · refine (g1.2.2.2 47 (by decide)).trans ?_
            show upd (jh_I h 11 0) 47 (jh_I h 11 0 47 + 1) 47 = _
            rw [jg_us, xl2, jn_S]
            rfl
          · have e95 := g1.1 95 0 (by decide)
            have e96 := g1.1 96 0 (by decide)
            refine ⟨?_, by have := jT_rk_lt (jT_K B sz t); omega, ?_, jp_ok_e (P := (w, s) :: P) xP (fun q hq => ?_)⟩
            · exact (congrFun e95 _).trans (jg_us _ _ _)
            · refine (congrFun e96 _).trans ((jg_us _ _ _).trans ?_)
              have z := jT_rk1.mp (jn_eq (show nI (jT_rk (jT_K B sz t)) = nI 1 from c70) (by have := jT_rk_lt (jT_K B sz t); omega) (by decide))
              show (124 : Int32) = _; unfold jT_sgn; rw [if_neg (by omega), if_pos z]
            · have hq2 : q < P.length + 1 := hq
              have hq3 : q ≠ P.length + 1 := by omega
              exact ⟨(congrFun e95 q).trans (jg_un hq3), (congrFun e96 q).trans (jg_un hq3)⟩
          · exact (g1.2.2.2 46 (by decide)).trans xi
          · refine ⟨fun a b z1 z2 z3 z4 z5 z6 => ?_, fun a b z1 => g1.2.1 a b z1, g1.2.2.1, fun f hf => ?_, fun q hq => congrFun (g1.1 69 0 (by decide)) q⟩
            · refine (g1.1 a b z1).trans ?_
              exact (if_neg (fun y => z1 y.1)).trans ((if_neg (fun y => z6 y.1)).trans (if_neg (fun y => z5 y.1)))
            · refine (g1.2.2.2 f (by omega)).trans ?_
              exact jg_un (by omega)
      · refine jr_ic rfl ?_
        refine jr_goto rfl ?_
        refine jr_cv2 (mc' := 0) (ms' := 0) rfl jm_MD_pushE_n jm_MD_pushE_f rfl rfl rfl rfl rfl rfl rfl (Nat.zero_le _) (Nat.zero_le _) ?_
        show jx_W (jm_MD_pushE, _, _, _, _, _, _) _ 0 0 0 [some _, some _, some _] [] _
        refine jr_aload rfl rfl ?_
        refine jr_getR rfl rfl rfl rfl (Or.inl rfl) ?_
        refine jr_aload rfl rfl ?_
        refine jr_getI rfl rfl ?_
        refine jr_iload rfl rfl ?_
        refine jr_iast (len := 90) rfl rfl xl2 (by omega) ?_
        refine jr_aload rfl rfl ?_
        refine jr_getR rfl rfl rfl rfl (Or.inl rfl) ?_
        refine jr_aload rfl rfl ?_
        refine jr_getI rfl rfl ?_
        refine jr_iload rfl rfl ?_
        refine jr_iast (len := 90) rfl rfl xl2 (by omega) ?_
        refine jr_aload rfl rfl ?_
        refine jr_dup_r rfl ?_
        refine jr_getI rfl rfl ?_
        refine jr_ic rfl ?_
        refine jr_iadd rfl ?_
        refine jr_putI rfl rfl ?_
        refine jr_vret rfl rfl (Nat.zero_le _) (Nat.zero_le _) ?_
        refine jr_aload rfl rfl ?_
        refine jr_cv0 (mc' := 0) (ms' := 0) rfl jm_MD_goOn_n jm_MD_goOn_f rfl rfl rfl rfl rfl rfl rfl (Nat.zero_le _) (Nat.zero_le _) ?_
        refine eM_goOn (B := B) (sz := sz) (t := t + 1) xt.1 xt.2.1 xt.2.2.1 xm.2.1 (fun h1 g1 m1 => ?_)
        refine jr_ic rfl ?_
        refine jr_zret rfl rfl rfl (Nat.zero_le _) (Nat.zero_le _) ?_
        refine k _ ⟨?_, m1, ?_, ?_, ?_, ?_, ?_, ?_, ?_, ?_, ?_, ?_⟩ ?_
        · exact ⟨(g1.2.2.2 3 (by decide)).trans xt.1, hsz, (congrArg (fun z => jT_c z sz) (g1.1 65 0 (by decide))).trans xt.2.2.1, (g1.2.2.2 5 (by decide)).trans xt.2.2.2⟩
        · exact (g1.2.2.2 4 (by decide)).trans xg
        · exact (g1.2.2.2 44 (by decide)).trans xb
        · exact (congrFun (g1.1 69 0 (by decide)) β).trans xu
        · exact (g1.2.2.2 48 (by decide)).trans xv
        · exact (g1.2.2.2 45 (by decide)).trans xc
        · exact (g1.1 93 0 (by decide)).trans xC
        · exact (g1.1 94 0 (by decide)).trans xN
        · refine (g1.2.2.2 47 (by decide)).trans ?_
          show upd (jh_I h 11 0) 47 (jh_I h 11 0 47 + 1) 47 = _
          rw [jg_us, xl2, jn_S]
          rfl
        · have e95 := g1.1 95 0 (by decide)
          have e96 := g1.1 96 0 (by decide)
          refine ⟨?_, by have := jT_rk_lt (jT_K B sz t); omega, ?_, jp_ok_e (P := (w, s) :: P) xP (fun q hq => ?_)⟩
          · exact (congrFun e95 _).trans (jg_us _ _ _)
          · refine (congrFun e96 _).trans ((jg_us _ _ _).trans ?_)
            show (38 : Int32) = _; unfold jT_sgn; rw [if_pos (jT_rk2.mp (jn_eq (show nI (jT_rk (jT_K B sz t)) = nI 2 from c65) (by have := jT_rk_lt (jT_K B sz t); omega) (by decide)))]
          · have hq2 : q < P.length + 1 := hq
            have hq3 : q ≠ P.length + 1 := by omega
            exact ⟨(congrFun e95 q).trans (jg_un hq3), (congrFun e96 q).trans (jg_un hq3)⟩
        · exact (g1.2.2.2 46 (by decide)).trans xi
        · refine ⟨fun a b z1 z2 z3 z4 z5 z6 => ?_, fun a b z1 => g1.2.1 a b z1, g1.2.2.1, fun f hf => ?_, fun q hq => congrFun (g1.1 69 0 (by decide)) q⟩
          · refine (g1.1 a b z1).trans ?_
            exact (if_neg (fun y => z1 y.1)).trans ((if_neg (fun y => z6 y.1)).trans (if_neg (fun y => z5 y.1)))
          · refine (g1.2.2.2 f (by omega)).trans ?_
            exact jg_un (by omega)
    · exfalso
      have f21 := jn_nlt (show ¬ nI 6 < nI w from c21) (by decide) (by omega)
      have f30 := jn_nlt (show ¬ nI w < nI (jT_rk (jT_K B sz t)) from c30) (by omega) (by have := jT_rk_lt (jT_K B sz t); omega)
      omega

set_option maxHeartbeats 800000 in
set_option maxRecDepth 100000 in
theorem eM_close {d n1 : Nat} {Q : Option jx_V → jx_H → Prop} {h : jx_H} {B : Nat → Int32} {sz β t u v c : Nat} {C N : Nat → Int32} {P : List (Nat × Int32)} {i w : Nat} {s : Int32}  (hx : jX h B sz β t u v c C N ((w, s) :: P) i) (hβ : β < 2) (hP : P.length < 60) (hw7 : w = 7) (hi1 : 1 ≤ i) (hr : jT_rk (jT_K B sz t) = 0) (hK : jT_K B sz t = 41) (k : ∀ h' : jx_H, jX h' B sz β (t + 1) u v c C N P (i - 1) → jX_F β h h' → Q (some (jv_i 0)) h')  : jx_W (jm_MD_behindUnit, d + 6, 0, 0, false, 1, n1) Q 0 0 13 [some (jv_r 11 0), some (jv_i (nI (jT_rk (jT_K B sz t))))] [] h := by
  obtain ⟨xt, xm, xg, xb, xu, xv, xc, xC, xN, xl, xP, xi⟩ := hx
  have xl2 : jh_I h 11 0 47 = nI (P.length + 1) := xl
  have hp := @jT_p_le B sz t
  have hsz := xt.2.1
  have xw := xP.2.1
  refine jr_aload rfl rfl ?_
  refine jr_getR rfl rfl rfl rfl (Or.inl rfl) ?_
  refine jr_aload rfl rfl ?_
  refine jr_getI rfl rfl ?_
  refine jr_ic rfl ?_
  refine jr_isub rfl ?_
  refine jr_iald (len := 90) rfl rfl (jn_sub xl2 (show _ = nI 1 from rfl) (by omega)) (by omega) ?_
  rw [show jh_I h 95 0 (P.length + 1 - 1) = nI w from xP.1]
  refine jr_ic rfl ?_
  refine jr_icmp_gt rfl (fun _ => ?_) (fun z => absurd (nI_lt (a := 6) (b := w) (by omega) (by omega)) z)
  refine jr_iload rfl rfl ?_
  refine jr_if_le rfl (fun _ => ?_) (fun z => absurd (show nI (jT_rk (jT_K B sz t)) ≤ 0 by rw [hr]; decide) z)
  refine jr_aload rfl rfl ?_
  refine jr_dup_r rfl ?_
  refine jr_getI rfl rfl ?_
  refine jr_ic rfl ?_
  refine jr_isub rfl ?_
  refine jr_putI rfl rfl ?_
  have h47 : jh_I (ju_I h 11 0 (upd (jh_I h 11 0) 47 (jh_I h 11 0 47 - 1))) 11 0 47 = nI P.length := (show jh_I h 11 0 47 - 1 = nI P.length from jn_sub xl2 (jn_c 1) (by omega))
  refine jr_aload rfl rfl ?_
  refine jr_getR rfl rfl rfl rfl (Or.inl rfl) ?_
  refine jr_aload rfl rfl ?_
  refine jr_getI rfl rfl ?_
  refine jr_iald (len := 90) rfl rfl h47 (by omega) ?_
  rw [show jh_I (ju_I h 11 0 (upd (jh_I h 11 0) 47 (jh_I h 11 0 47 - 1))) 95 0 P.length = nI w from xP.1]
  refine jr_ic rfl ?_
  refine jr_icmp_ne rfl (fun z => absurd (show nI w = 7 by rw [hw7]; rfl) z) (fun _ => ?_)
  refine jr_aload rfl rfl ?_
  refine jr_dup_r rfl ?_
  refine jr_getI rfl rfl ?_
  refine jr_ic rfl ?_
  refine jr_isub rfl ?_
  refine jr_putI rfl rfl ?_
  refine jr_aload rfl rfl ?_
  refine jr_aload rfl rfl ?_
  refine jr_ic rfl ?_
  refine jr_cv1 (mc' := 0) (ms' := 0) rfl jm_MD_isSignHere_n jm_MD_isSignHere_f rfl rfl rfl rfl rfl rfl rfl (Nat.zero_le _) (Nat.zero_le _) ?_
  refine eM_isSignHere (B := B) (sz := sz) (t := t) (s := 41) ⟨xt.1, hsz, xt.2.2⟩ ⟨xm.1, xm.2.1, xm.2.2.1, xm.2.2.2.1, xm.2.2.2.2⟩ (by decide) ?_
  refine jr_cv1 (mc' := 0) (ms' := 0) rfl jm_MD_must_n jm_MD_must_f rfl rfl rfl rfl rfl rfl rfl (Nat.zero_le _) (Nat.zero_le _) ?_
  show jx_W (jm_MD_must, _, _, _, _, _, _) _ 0 0 0 [some _, some _] [] _
  refine jr_aload rfl rfl ?_
  refine jr_cv0 (mc' := 0) (ms' := 0) rfl jm_MD_isGood_n jm_MD_isGood_f rfl rfl rfl rfl rfl rfl rfl (Nat.zero_le _) (Nat.zero_le _) ?_
  show jx_W (jm_MD_isGood, _, _, _, _, _, _) _ 0 0 0 [some _] [] _
  refine jr_aload rfl rfl ?_
  refine jr_getI rfl rfl ?_
  refine jr_if_ne rfl (fun z => absurd xg z) (fun _ => ?_)
  refine jr_ic rfl ?_
  refine jr_goto rfl ?_
  refine jr_zret rfl rfl rfl (Nat.zero_le _) (Nat.zero_le _) ?_
  refine jr_if_ne rfl (fun _ => ?_) (fun z => absurd z (by decide))
  refine jr_iload rfl rfl ?_
  refine jr_if_eq rfl (fun z => absurd z (by rw [if_pos hK]; decide)) (fun _ => ?_)
  refine jr_aload rfl rfl ?_
  refine jr_cv0 (mc' := 0) (ms' := 0) rfl jm_MD_goOn_n jm_MD_goOn_f rfl rfl rfl rfl rfl rfl rfl (Nat.zero_le _) (Nat.zero_le _) ?_
  refine eM_goOn (B := B) (sz := sz) (t := t + 1) xt.1 xt.2.1 xt.2.2.1 xm.2.1 (fun h1 g1 m1 => ?_)
  refine jr_goto rfl ?_
  refine jr_vret rfl rfl (Nat.zero_le _) (Nat.zero_le _) ?_
  refine jr_ic rfl ?_
  refine jr_zret rfl rfl rfl (Nat.zero_le _) (Nat.zero_le _) ?_
  refine k _ ⟨?_, m1, ?_, ?_, ?_, ?_, ?_, ?_, ?_, ?_, ?_, ?_⟩ ?_
  · exact ⟨(g1.2.2.2 3 (by decide)).trans xt.1, hsz, (congrArg (fun z => jT_c z sz) (g1.1 65 0 (by decide))).trans xt.2.2.1, (g1.2.2.2 5 (by decide)).trans xt.2.2.2⟩
  · exact (g1.2.2.2 4 (by decide)).trans xg
  · exact (g1.2.2.2 44 (by decide)).trans xb
  · exact (congrFun (g1.1 69 0 (by decide)) β).trans xu
  · exact (g1.2.2.2 48 (by decide)).trans xv
  · exact (g1.2.2.2 45 (by decide)).trans xc
  · exact (g1.1 93 0 (by decide)).trans xC
  · exact (g1.1 94 0 (by decide)).trans xN
  · refine (g1.2.2.2 47 (by decide)).trans ?_
    show upd (upd (jh_I h 11 0) 47 (jh_I h 11 0 47 - 1)) 46 (jh_I h 11 0 46 - 1) 47 = _
    rw [jg_un (by decide), jg_us]; exact jn_sub xl2 (jn_c 1) (by omega)
  · exact jp_ok_e xP.2.2.2 (fun q _ => ⟨congrFun (g1.1 95 0 (by decide)) q, congrFun (g1.1 96 0 (by decide)) q⟩)
  · refine (g1.2.2.2 46 (by decide)).trans ?_
    show upd (upd (jh_I h 11 0) 47 (jh_I h 11 0 47 - 1)) 46 (jh_I h 11 0 46 - 1) 46 = _
    rw [jg_us]; exact jn_sub xi (jn_c 1) (by omega)
  · refine ⟨fun a b z1 z2 z3 z4 z5 z6 => ?_, fun a b z1 => g1.2.1 a b z1, g1.2.2.1, fun f hf => ?_, fun q hq => congrFun (g1.1 69 0 (by decide)) q⟩
    · refine (g1.1 a b z1).trans ?_
      exact (if_neg (fun y => z1 y.1)).trans (if_neg (fun y => z1 y.1))
    · refine (g1.2.2.2 f (by omega)).trans ?_
      exact (jg_un (by omega)).trans (jg_un (by omega))

set_option maxHeartbeats 800000 in
set_option maxRecDepth 100000 in
theorem eM_close_r {d n1 : Nat} {Q : Option jx_V → jx_H → Prop} {h : jx_H} {B : Nat → Int32} {sz β t u v c : Nat} {C N : Nat → Int32} {P : List (Nat × Int32)} {i w : Nat} {s : Int32}  (hx : jX h B sz β t u v c C N ((w, s) :: P) i) (hβ : β < 2) (hP : P.length < 60) (hw7 : w = 7) (hi1 : 1 ≤ i) (hr : jT_rk (jT_K B sz t) = 0) (hK : ¬ jT_K B sz t = 41) (k : ∀ h' : jx_H, jX_F β h h' → (jh_I h' 93 0 = jh_I h 93 0 ∧ jh_I h' 94 0 = jh_I h 94 0) → jh_I h' 11 0 4 = jX_kd (jT_K B sz t) → jPl h' (jT_p B sz t) → Q (some (jv_i 0)) h')  : jx_W (jm_MD_behindUnit, d + 6, 0, 0, false, 1, n1) Q 0 0 13 [some (jv_r 11 0), some (jv_i (nI (jT_rk (jT_K B sz t))))] [] h := by
  obtain ⟨xt, xm, xg, xb, xu, xv, xc, xC, xN, xl, xP, xi⟩ := hx
  have xl2 : jh_I h 11 0 47 = nI (P.length + 1) := xl
  have hp := @jT_p_le B sz t
  have hsz := xt.2.1
  have xw := xP.2.1
  refine jr_aload rfl rfl ?_
  refine jr_getR rfl rfl rfl rfl (Or.inl rfl) ?_
  refine jr_aload rfl rfl ?_
  refine jr_getI rfl rfl ?_
  refine jr_ic rfl ?_
  refine jr_isub rfl ?_
  refine jr_iald (len := 90) rfl rfl (jn_sub xl2 (show _ = nI 1 from rfl) (by omega)) (by omega) ?_
  rw [show jh_I h 95 0 (P.length + 1 - 1) = nI w from xP.1]
  refine jr_ic rfl ?_
  refine jr_icmp_gt rfl (fun _ => ?_) (fun z => absurd (nI_lt (a := 6) (b := w) (by omega) (by omega)) z)
  refine jr_iload rfl rfl ?_
  refine jr_if_le rfl (fun _ => ?_) (fun z => absurd (show nI (jT_rk (jT_K B sz t)) ≤ 0 by rw [hr]; decide) z)
  refine jr_aload rfl rfl ?_
  refine jr_dup_r rfl ?_
  refine jr_getI rfl rfl ?_
  refine jr_ic rfl ?_
  refine jr_isub rfl ?_
  refine jr_putI rfl rfl ?_
  have h47 : jh_I (ju_I h 11 0 (upd (jh_I h 11 0) 47 (jh_I h 11 0 47 - 1))) 11 0 47 = nI P.length := (show jh_I h 11 0 47 - 1 = nI P.length from jn_sub xl2 (jn_c 1) (by omega))
  refine jr_aload rfl rfl ?_
  refine jr_getR rfl rfl rfl rfl (Or.inl rfl) ?_
  refine jr_aload rfl rfl ?_
  refine jr_getI rfl rfl ?_
  refine jr_iald (len := 90) rfl rfl h47 (by omega) ?_
  rw [show jh_I (ju_I h 11 0 (upd (jh_I h 11 0) 47 (jh_I h 11 0 47 - 1))) 95 0 P.length = nI w from xP.1]
  refine jr_ic rfl ?_
  refine jr_icmp_ne rfl (fun z => absurd (show nI w = 7 by rw [hw7]; rfl) z) (fun _ => ?_)
  refine jr_aload rfl rfl ?_
  refine jr_dup_r rfl ?_
  refine jr_getI rfl rfl ?_
  refine jr_ic rfl ?_
  refine jr_isub rfl ?_
  refine jr_putI rfl rfl ?_
  refine jr_aload rfl rfl ?_
  refine jr_aload rfl rfl ?_
  refine jr_ic rfl ?_
  refine jr_cv1 (mc' := 0) (ms' := 0) rfl jm_MD_isSignHere_n jm_MD_isSignHere_f rfl rfl rfl rfl rfl rfl rfl (Nat.zero_le _) (Nat.zero_le _) ?_
  refine eM_isSignHere (B := B) (sz := sz) (t := t) (s := 41) ⟨xt.1, hsz, xt.2.2⟩ ⟨xm.1, xm.2.1, xm.2.2.1, xm.2.2.2.1, xm.2.2.2.2⟩ (by decide) ?_
  refine jr_cv1 (mc' := 0) (ms' := 0) rfl jm_MD_must_n jm_MD_must_f rfl rfl rfl rfl rfl rfl rfl (Nat.zero_le _) (Nat.zero_le _) ?_
  show jx_W (jm_MD_must, _, _, _, _, _, _) _ 0 0 0 [some _, some _] [] _
  refine jr_aload rfl rfl ?_
  refine jr_cv0 (mc' := 0) (ms' := 0) rfl jm_MD_isGood_n jm_MD_isGood_f rfl rfl rfl rfl rfl rfl rfl (Nat.zero_le _) (Nat.zero_le _) ?_
  show jx_W (jm_MD_isGood, _, _, _, _, _, _) _ 0 0 0 [some _] [] _
  refine jr_aload rfl rfl ?_
  refine jr_getI rfl rfl ?_
  refine jr_if_ne rfl (fun z => absurd xg z) (fun _ => ?_)
  refine jr_ic rfl ?_
  refine jr_goto rfl ?_
  refine jr_zret rfl rfl rfl (Nat.zero_le _) (Nat.zero_le _) ?_
  refine jr_if_ne rfl (fun _ => ?_) (fun z => absurd z (by decide))
  refine jr_iload rfl rfl ?_
  refine jr_if_eq rfl (fun _ => ?_) (fun z => absurd (if_neg hK) z)
  refine jr_aload rfl rfl ?_
  refine jr_cv0 (mc' := 0) (ms' := 0) rfl jm_MD_misplaced_n jm_MD_misplaced_f rfl rfl rfl rfl rfl rfl rfl (Nat.zero_le _) (Nat.zero_le _) ?_
  refine eM_misplaced (B := B) (sz := sz) (t := t) xg ⟨xm.1, xm.2.1, xm.2.2.1, xm.2.2.2.1, xm.2.2.2.2⟩ (fun h1 g1 => ?_)
  refine jr_vret rfl rfl (Nat.zero_le _) (Nat.zero_le _) ?_
  refine jr_ic rfl ?_
  refine jr_zret rfl rfl rfl (Nat.zero_le _) (Nat.zero_le _) ?_
  have gg := jX_F_ft (β := β) g1
  refine k h1 (jX_F_t ?_ gg) ⟨g1.1 93 0 (by decide), g1.1 94 0 (by decide)⟩ g1.2.2.2.1 g1.2.2.2.2
  refine ⟨fun a b z1 z2 z3 z4 z5 z6 => ?_, fun a b z1 => rfl, rfl, fun f hf => ?_, fun q hq => rfl⟩
  · exact (if_neg (fun y => z1 y.1)).trans (if_neg (fun y => z1 y.1))
  · exact (jg_un (by omega)).trans (jg_un (by omega))

set_option maxHeartbeats 800000 in
set_option maxRecDepth 100000 in
theorem eM_end {d n1 : Nat} {Q : Option jx_V → jx_H → Prop} {h : jx_H} {B : Nat → Int32} {sz β t u v c : Nat} {C N : Nat → Int32} {P : List (Nat × Int32)} {i w : Nat} {s : Int32}  (hx : jX h B sz β t u v c C N ((w, s) :: P) i) (hβ : β < 2) (hP : P.length < 60) (hw8 : w = 8) (hr : jT_rk (jT_K B sz t) = 0) (k : ∀ h' : jx_H, jX h' B sz β t u v c C N P i → jX_F β h h' → Q (some (jv_i 0)) h')  : jx_W (jm_MD_behindUnit, d + 6, 0, 0, false, 1, n1) Q 0 0 13 [some (jv_r 11 0), some (jv_i (nI (jT_rk (jT_K B sz t))))] [] h := by
  obtain ⟨xt, xm, xg, xb, xu, xv, xc, xC, xN, xl, xP, xi⟩ := hx
  have xl2 : jh_I h 11 0 47 = nI (P.length + 1) := xl
  have hp := @jT_p_le B sz t
  have hsz := xt.2.1
  have xw := xP.2.1
  refine jr_aload rfl rfl ?_
  refine jr_getR rfl rfl rfl rfl (Or.inl rfl) ?_
  refine jr_aload rfl rfl ?_
  refine jr_getI rfl rfl ?_
  refine jr_ic rfl ?_
  refine jr_isub rfl ?_
  refine jr_iald (len := 90) rfl rfl (jn_sub xl2 (show _ = nI 1 from rfl) (by omega)) (by omega) ?_
  rw [show jh_I h 95 0 (P.length + 1 - 1) = nI w from xP.1]
  refine jr_ic rfl ?_
  refine jr_icmp_gt rfl (fun _ => ?_) (fun z => absurd (nI_lt (a := 6) (b := w) (by omega) (by omega)) z)
  refine jr_iload rfl rfl ?_
  refine jr_if_le rfl (fun _ => ?_) (fun z => absurd (show nI (jT_rk (jT_K B sz t)) ≤ 0 by rw [hr]; decide) z)
  refine jr_aload rfl rfl ?_
  refine jr_dup_r rfl ?_
  refine jr_getI rfl rfl ?_
  refine jr_ic rfl ?_
  refine jr_isub rfl ?_
  refine jr_putI rfl rfl ?_
  have h47 : jh_I (ju_I h 11 0 (upd (jh_I h 11 0) 47 (jh_I h 11 0 47 - 1))) 11 0 47 = nI P.length := (show jh_I h 11 0 47 - 1 = nI P.length from jn_sub xl2 (jn_c 1) (by omega))
  refine jr_aload rfl rfl ?_
  refine jr_getR rfl rfl rfl rfl (Or.inl rfl) ?_
  refine jr_aload rfl rfl ?_
  refine jr_getI rfl rfl ?_
  refine jr_iald (len := 90) rfl rfl h47 (by omega) ?_
  rw [show jh_I (ju_I h 11 0 (upd (jh_I h 11 0) 47 (jh_I h 11 0 47 - 1))) 95 0 P.length = nI w from xP.1]
  refine jr_ic rfl ?_
  refine jr_icmp_ne rfl (fun _ => ?_) (fun z => absurd z (fun z => by have := jn_eq (show nI w = nI 7 from z) (by omega) (by decide); omega))
  refine jr_ic rfl ?_
  refine jr_zret rfl rfl rfl (Nat.zero_le _) (Nat.zero_le _) ?_
  refine k _ ⟨xt, xm, xg, xb, xu, xv, xc, xC, xN, ?_, xP.2.2.2, xi⟩ ⟨fun a b z1 z2 z3 z4 z5 z6 => if_neg (fun y => z1 y.1), fun a b z1 => rfl, rfl, fun f hf => jg_un (by omega), fun q hq => rfl⟩
  show upd (jh_I h 11 0) 47 (jh_I h 11 0 47 - 1) 47 = _
  rw [jg_us]; exact jn_sub xl2 (jn_c 1) (by omega)

