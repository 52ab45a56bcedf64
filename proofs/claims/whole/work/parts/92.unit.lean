def jp_ok (F G : Nat → Int32) : List (Nat × Int32) → Prop
  | [] => True
  | (w, s) :: P => F P.length = nI w ∧ w ≤ 8 ∧ G P.length = s ∧ jp_ok F G P
theorem jp_ok_e {F G F' G' : Nat → Int32} : ∀ {P : List (Nat × Int32)}, jp_ok F G P → (∀ q, q < P.length → F' q = F q ∧ G' q = G q) → jp_ok F' G' P
  | [], _, _ => trivial
  | (w, s) :: P, h, e => by
    have e1 := e P.length (by simp)
    exact ⟨e1.1.trans h.1, h.2.1, e1.2.trans h.2.2.1, jp_ok_e h.2.2.2 (fun q hq => e q (by simp; omega))⟩
def jX (h : jx_H) (B : Nat → Int32) (sz β t u v c : Nat) (C N : Nat → Int32) (P : List (Nat × Int32)) (i : Nat) : Prop :=
  jX_t h B sz ∧ jT_mc h B sz t ∧ jh_I h 11 0 4 = 0 ∧ jh_I h 11 0 44 = nI β ∧ jh_I h 69 0 β = nI u ∧ jh_I h 11 0 48 = nI v ∧ jh_I h 11 0 45 = nI (620 * β + c) ∧ jh_I h 93 0 = C ∧ jh_I h 94 0 = N ∧ jh_I h 11 0 47 = nI P.length ∧ jp_ok (jh_I h 95 0) (jh_I h 96 0) P ∧ jh_I h 11 0 46 = nI i
def jX_F (β : Nat) (h h' : jx_H) : Prop := (∀ a b, a ≠ 11 → a ≠ 69 → a ≠ 93 → a ≠ 94 → a ≠ 95 → a ≠ 96 → jh_I h' a b = jh_I h a b) ∧ (∀ a b, a ≠ 11 → jh_L h' a b = jh_L h a b) ∧ h'.2.2 = h.2.2 ∧ (∀ f, f < 4 ∨ (10 < f ∧ f < 45) ∨ 48 < f → jh_I h' 11 0 f = jh_I h 11 0 f) ∧ (∀ q, q ≠ β → jh_I h' 69 0 q = jh_I h 69 0 q)
theorem jX_F_t {β : Nat} {h h1 h2 : jx_H} (f : jX_F β h h1) (g : jX_F β h1 h2) : jX_F β h h2 := ⟨fun a b z1 z2 z3 z4 z5 z6 => (g.1 a b z1 z2 z3 z4 z5 z6).trans (f.1 a b z1 z2 z3 z4 z5 z6), fun a b z1 => (g.2.1 a b z1).trans (f.2.1 a b z1), g.2.2.1.trans f.2.2.1, fun x hx => (g.2.2.2.1 x hx).trans (f.2.2.2.1 x hx), fun q hq => (g.2.2.2.2 q hq).trans (f.2.2.2.2 q hq)⟩
theorem jX_F_r (β : Nat) (h : jx_H) : jX_F β h h := ⟨fun _ _ _ _ _ _ _ _ => rfl, fun _ _ _ => rfl, rfl, fun _ _ => rfl, fun _ _ => rfl⟩
theorem jX_F_ft {β : Nat} {h h' : jx_H} {kd : Int32} {pl : Nat} (f : jX_ft h h' kd pl) : jX_F β h h' := ⟨fun a b z1 _ _ _ _ _ => f.1 a b z1, fun a b _ => congrFun (congrFun (congrArg (·.1) f.2.1) a) b, congrArg (·.2) f.2.1, fun x hx => f.2.2.1 x (by omega) (by omega), fun q _ => congrFun (f.1 69 0 (by decide)) q⟩
theorem jX_F_MG {β : Nat} {h h' : jx_H} (f : jT_MG h h') : jX_F β h h' := ⟨fun a b z1 _ _ _ _ _ => f.1 a b z1, f.2.1, f.2.2.1, fun x hx => f.2.2.2 x (by omega), fun q _ => congrFun (f.1 69 0 (by decide)) q⟩
theorem jX_t_MG {h h' : jx_H} {B : Nat → Int32} {sz : Nat} (f : jT_MG h h') (t : jX_t h B sz) : jX_t h' B sz := ⟨(f.2.2.2 3 (by decide)).trans t.1, t.2.1, by rw [f.1 65 0 (by decide)]; exact t.2.2.1, (f.2.2.2 5 (by decide)).trans t.2.2.2⟩
theorem jT_E_c (B : Nat → Int32) (sz t : Nat) : jT_E B sz (t + 1) = jT_E B sz (t + 1) := rfl
set_option maxHeartbeats 800000 in
set_option maxRecDepth 100000 in
theorem eM_unit_w {d : Nat} {h : jx_H} {Q : Option jx_V → jx_H → Prop} {B : Nat → Int32} {sz β t u v c : Nat} {C N : Nat → Int32} {P : List (Nat × Int32)} {i w : Nat} {s : Int32}  (hx : jX h B sz β t u v c C N ((w, s) :: P) i) (hβ : β < 2) (hP : P.length < 60) (hK : 100 ≤ jT_K B sz t) (hK2 : jT_K B sz t ≤ 106) (hwp : 0 < jT_wh (jT_K B sz t)) (hwb : jT_wh (jT_K B sz t) < 128) (hu : u < 90) (hv : v < 30) (hc : c < 620) (k : ∀ h' : jx_H, jX h' B sz β (t + 1) (u + 1) (v + 1) (c + 1) (upd C (620 * β + c) (nI (jT_wh (jT_K B sz t)))) (upd N (620 * β + c) 0) ((w, s) :: P) i → jX_F β h h' → Q (some (jv_i 0)) h')  : jx_Ev jm_MD_unit (d + 6) 0 0 false 1 [jv_r 11 0] h Q := by
  show jx_W (jm_MD_unit, d + 6, 0, 0, false, 1, _) Q 0 0 0 [some (jv_r 11 0), none, none, none, none, none, none] [] _
  obtain ⟨xt, xm, xg, xb, xu, xv, xc, xC, xN, xl, xP, xi⟩ := hx
  have xl2 : jh_I h 11 0 47 = nI (P.length + 1) := xl
  have hp := @jT_p_le B sz t
  have hsz := xt.2.1
  refine jr_aload rfl rfl ?_
  refine jr_getR rfl rfl rfl rfl (Or.inl rfl) ?_
  refine jr_aload rfl rfl ?_
  refine jr_getI rfl rfl ?_
  refine jr_ic rfl ?_
  refine jr_isub rfl ?_
  refine jr_iald (len := 90) rfl rfl (jn_sub xl2 (show _ = nI 1 from rfl) (by omega)) (by omega) ?_
  rw [show jh_I h 95 0 (P.length + 1 - 1) = nI w from xP.1]
  refine jr_ic rfl ?_
  refine jr_icmp_le rfl (fun c8 => ?_) (fun c8 => ?_)
  · refine jr_ic rfl ?_
    refine jr_goto rfl ?_
    refine jr_ist1 rfl rfl ?_
    refine jr_iload rfl rfl ?_
    refine jr_if_eq rfl (fun z => absurd z (by decide)) (fun _ => ?_)
    refine jr_aload rfl rfl ?_
    refine jr_lc rfl ?_
    refine jr_cv1 (mc' := 0) (ms' := 0) rfl jm_MD_isWord_n jm_MD_isWord_f rfl rfl rfl rfl rfl rfl rfl (Nat.zero_le _) (Nat.zero_le _) ?_
    refine eM_isWord xm (i := 28) (by decide) jT_W28 ?_
    refine jr_if_eq rfl (fun _ => ?_) (fun z => absurd (if_neg (by omega)) z)
    refine jr_ic rfl ?_
    refine jr_ist2 rfl rfl ?_
    refine jr_aload rfl rfl ?_
    refine jr_ic rfl ?_
    refine jr_cv1 (mc' := 0) (ms' := 0) rfl jm_MD_isSignHere_n jm_MD_isSignHere_f rfl rfl rfl rfl rfl rfl rfl (Nat.zero_le _) (Nat.zero_le _) ?_
    refine eM_isSignHere (s := 40) xt xm (by decide) ?_
    refine jr_ist3 rfl rfl ?_
    refine jr_aload rfl rfl ?_
    refine jr_cv0 (mc' := 0) (ms' := 0) rfl jm_MD_wordHere_n jm_MD_wordHere_f rfl rfl rfl rfl rfl rfl rfl (Nat.zero_le _) (Nat.zero_le _) ?_
    refine eM_wordHere xm ?_
    refine jr_ist4 rfl rfl ?_
    refine jr_aload rfl rfl ?_
    refine jr_getR rfl rfl rfl rfl (Or.inl rfl) ?_
    refine jr_aload rfl rfl ?_
    refine jr_getI rfl rfl ?_
    refine jr_iald (len := 2) rfl rfl xb (by omega) ?_
    rw [xu]
    refine jr_ic rfl ?_
    refine jr_icmp_eq rfl (fun z => absurd z (fun z => by have := jn_eq (show nI u = nI 90 from z) (by omega) (by decide); omega)) (fun _ => ?_)
    refine jr_aload rfl rfl ?_
    refine jr_getI rfl rfl ?_
    rw [xv]
    refine jr_ic rfl ?_
    refine jr_icmp_ne rfl (fun _ => ?_) (fun z => absurd z (fun z => by have := jn_eq (show nI v = nI 30 from z) (by omega) (by decide); omega))
    refine jr_ic rfl ?_
    refine jr_ist5 rfl rfl ?_
    refine jr_iload rfl rfl ?_
    refine jr_if_ne rfl (fun z => absurd (by decide) z) (fun _ => ?_)
    refine jr_iload rfl rfl ?_
    refine jr_if_ne rfl (fun _ => ?_) (fun z => absurd z (nI_ne0 (by omega) (by omega)))
    refine jr_iload rfl rfl ?_
    refine jr_if_ne rfl (fun z => absurd (by decide) z) (fun _ => ?_)
    refine jr_iload rfl rfl ?_
    refine jr_if_ne rfl (fun z => absurd (by decide) z) (fun _ => ?_)
    refine jr_iload rfl rfl ?_
    refine jr_if_eq rfl (fun _ => ?_) (fun z => absurd (if_neg (by omega)) z)
    refine jr_aload rfl rfl ?_
    refine jr_cv0 (mc' := 0) (ms' := 0) rfl jm_MD_isGood_n jm_MD_isGood_f rfl rfl rfl rfl rfl rfl rfl (Nat.zero_le _) (Nat.zero_le _) ?_
    show jx_W (jm_MD_isGood, _, _, _, _, _, _) _ 0 0 0 [some _] [] _
    refine jr_aload rfl rfl ?_
    refine jr_getI rfl rfl ?_
    refine jr_if_ne rfl (fun z => absurd xg z) (fun _ => ?_)
    refine jr_ic rfl ?_
    refine jr_goto rfl ?_
    refine jr_zret rfl rfl rfl (Nat.zero_le _) (Nat.zero_le _) ?_
    refine jr_if_ne rfl (fun _ => ?_) (fun z => absurd z (by decide))
    refine jr_aload rfl rfl ?_
    refine jr_getR rfl rfl rfl rfl (Or.inl rfl) ?_
    refine jr_aload rfl rfl ?_
    refine jr_getI rfl rfl ?_
    refine jr_dup2 rfl ?_
    refine jr_iald (len := 2) rfl rfl xb (by omega) ?_
    refine jr_iload rfl rfl ?_
    refine jr_if_eq rfl (fun _ => ?_) (fun z => absurd (by decide) z)
    refine jr_ic rfl ?_
    refine jr_iadd rfl ?_
    refine jr_iast (len := 2) rfl rfl xb (by omega) ?_
    refine jr_aload rfl rfl ?_
    refine jr_dup_r rfl ?_
    refine jr_getI rfl rfl ?_
    refine jr_iload rfl rfl ?_
    refine jr_if_eq rfl (fun _ => ?_) (fun z => absurd (by decide) z)
    refine jr_ic rfl ?_
    refine jr_iadd rfl ?_
    refine jr_putI rfl rfl ?_
    refine jr_iload rfl rfl ?_
    refine jr_if_ne rfl (fun _ => ?_) (fun z => absurd z (nI_ne0 (by omega) (by omega)))
    refine jr_ic rfl ?_
    refine jr_ist6 rfl rfl ?_
    refine jr_aload rfl rfl ?_
    refine jr_cv0 (mc' := 0) (ms' := 0) rfl jm_MD_goOn_n jm_MD_goOn_f rfl rfl rfl rfl rfl rfl rfl (Nat.zero_le _) (Nat.zero_le _) ?_
    refine eM_goOn (B := B) (sz := sz) (t := t + 1) xt.1 xt.2.1 xt.2.2.1 xm.2.1 (fun h1 g1 m1 => ?_)
    refine jr_iload rfl rfl ?_
    refine jr_if_ne rfl (fun z => absurd (by decide) z) (fun _ => ?_)
    refine jr_iload rfl rfl ?_
    refine jr_if_eq rfl (fun _ => ?_) (fun z => absurd (if_neg (by omega)) z)
    refine jr_aload rfl rfl ?_
    refine jr_iload rfl rfl ?_
    refine jr_if_ne rfl (fun _ => ?_) (fun z => absurd z (nI_ne0 (by omega) (by omega)))
    refine jr_iload rfl rfl ?_
    refine jr_iload rfl rfl ?_
    refine jr_cv2 (mc' := 0) (ms' := 0) rfl jm_MD_emit_n jm_MD_emit_f rfl rfl rfl rfl rfl rfl rfl (Nat.zero_le _) (Nat.zero_le _) ?_
    show jx_W (jm_MD_emit, _, _, _, _, _, _) _ 0 0 0 [some _, some _, some _] [] _
    refine jr_aload rfl rfl ?_
    refine jr_getR rfl rfl rfl rfl (Or.inl rfl) ?_
    refine jr_aload rfl rfl ?_
    refine jr_getI rfl rfl ?_
    refine jr_iload rfl rfl ?_
    refine jr_iast (len := 1240) rfl rfl ((g1.2.2.2 45 (by decide)).trans xc) (by omega) ?_
    refine jr_aload rfl rfl ?_
    refine jr_getR rfl rfl rfl rfl (Or.inl rfl) ?_
    refine jr_aload rfl rfl ?_
    refine jr_getI rfl rfl ?_
    refine jr_iload rfl rfl ?_
    refine jr_iast (len := 1240) rfl rfl ((g1.2.2.2 45 (by decide)).trans xc) (by omega) ?_
    refine jr_aload rfl rfl ?_
    refine jr_dup_r rfl ?_
    refine jr_getI rfl rfl ?_
    refine jr_ic rfl ?_
    refine jr_iadd rfl ?_
    refine jr_putI rfl rfl ?_
    refine jr_vret rfl rfl (Nat.zero_le _) (Nat.zero_le _) ?_
    refine jr_ic rfl ?_
    refine jr_zret rfl rfl rfl (Nat.zero_le _) (Nat.zero_le _) ?_
    have e45 : jh_I h1 11 0 45 = nI (620 * β + c) := (g1.2.2.2 45 (by decide)).trans xc
    refine k _ ⟨?_, m1, ?_, ?_, ?_, ?_, ?_, ?_, ?_, ?_, ?_, ?_⟩ ?_
    · exact ⟨(g1.2.2.2 3 (by decide)).trans xt.1, hsz, (congrArg (fun z => jT_c z sz) (g1.1 65 0 (by decide))).trans xt.2.2.1, (g1.2.2.2 5 (by decide)).trans xt.2.2.2⟩
    · exact (g1.2.2.2 4 (by decide)).trans xg
    · exact (g1.2.2.2 44 (by decide)).trans xb
    · refine (congrFun (g1.1 69 0 (by decide)) β).trans ?_
      show upd (jh_I h 69 0) β (jh_I h 69 0 β + 1) β = _
      rw [jg_us, xu, jn_S]
    · refine (g1.2.2.2 48 (by decide)).trans ?_
      show upd (jh_I h 11 0) 48 (jh_I h 11 0 48 + 1) 48 = _
      rw [jg_us, xv, jn_S]
    · show upd (jh_I h1 11 0) 45 (jh_I h1 11 0 45 + 1) 45 = _
      rw [jg_us, e45, jn_S]
      rfl
    · show upd (jh_I h1 93 0) (620 * β + c) _ = _
      rw [g1.1 93 0 (by decide)]
      show upd (jh_I h 93 0) (620 * β + c) _ = _
      rw [xC]
    · show upd (jh_I h1 94 0) (620 * β + c) _ = _
      rw [g1.1 94 0 (by decide)]
      show upd (jh_I h 94 0) (620 * β + c) _ = _
      rw [xN]
    · exact (g1.2.2.2 47 (by decide)).trans xl
    · show jp_ok (jh_I h1 95 0) (jh_I h1 96 0) _
      rw [g1.1 95 0 (by decide), g1.1 96 0 (by decide)]
      exact xP
    · exact (g1.2.2.2 46 (by decide)).trans xi
    · refine ⟨fun a b z1 z2 z3 z4 z5 z6 => ?_, fun a b z1 => g1.2.1 a b z1, g1.2.2.1, fun f hf => ?_, fun q hq => ?_⟩
      · refine (if_neg (fun y => z1 y.1)).trans ((if_neg (fun y => z4 y.1)).trans ((if_neg (fun y => z3 y.1)).trans ?_))
        refine (g1.1 a b z1).trans ?_
        exact (if_neg (fun y => z1 y.1)).trans (if_neg (fun y => z2 y.1))
      · refine (jg_un (by omega)).trans ?_
        refine (g1.2.2.2 f (by omega)).trans ?_
        exact jg_un (by omega)
      · refine (congrFun (g1.1 69 0 (by decide)) q).trans ?_
        exact jg_un hq
  · refine jr_aload rfl rfl ?_
    refine jr_getR rfl rfl rfl rfl (Or.inl rfl) ?_
    refine jr_aload rfl rfl ?_
    refine jr_getI rfl rfl ?_
    refine jr_ic rfl ?_
    refine jr_isub rfl ?_
    refine jr_iald (len := 90) rfl rfl (jn_sub xl2 (show _ = nI 1 from rfl) (by omega)) (by omega) ?_
    rw [show jh_I h 95 0 (P.length + 1 - 1) = nI w from xP.1]
    refine jr_ic rfl ?_
    refine jr_icmp_lt rfl (fun c17 => ?_) (fun c17 => ?_)
    · refine jr_ic rfl ?_
      refine jr_ist1 rfl rfl ?_
      refine jr_iload rfl rfl ?_
      refine jr_if_eq rfl (fun _ => ?_) (fun z => absurd (by decide) z)
      refine jr_ic rfl ?_
      refine jr_ist2 rfl rfl ?_
      refine jr_aload rfl rfl ?_
      refine jr_ic rfl ?_
      refine jr_cv1 (mc' := 0) (ms' := 0) rfl jm_MD_isSignHere_n jm_MD_isSignHere_f rfl rfl rfl rfl rfl rfl rfl (Nat.zero_le _) (Nat.zero_le _) ?_
      refine eM_isSignHere (s := 40) xt xm (by decide) ?_
      refine jr_ist3 rfl rfl ?_
      refine jr_aload rfl rfl ?_
      refine jr_cv0 (mc' := 0) (ms' := 0) rfl jm_MD_wordHere_n jm_MD_wordHere_f rfl rfl rfl rfl rfl rfl rfl (Nat.zero_le _) (Nat.zero_le _) ?_
      refine eM_wordHere xm ?_
      refine jr_ist4 rfl rfl ?_
      refine jr_aload rfl rfl ?_
      refine jr_getR rfl rfl rfl rfl (Or.inl rfl) ?_
      refine jr_aload rfl rfl ?_
      refine jr_getI rfl rfl ?_
      refine jr_iald (len := 2) rfl rfl xb (by omega) ?_
      rw [xu]
      refine jr_ic rfl ?_
      refine jr_icmp_eq rfl (fun z => absurd z (fun z => by have := jn_eq (show nI u = nI 90 from z) (by omega) (by decide); omega)) (fun _ => ?_)
      refine jr_aload rfl rfl ?_
      refine jr_getI rfl rfl ?_
      rw [xv]
      refine jr_ic rfl ?_
      refine jr_icmp_ne rfl (fun _ => ?_) (fun z => absurd z (fun z => by have := jn_eq (show nI v = nI 30 from z) (by omega) (by decide); omega))
      refine jr_ic rfl ?_
      refine jr_ist5 rfl rfl ?_
      refine jr_iload rfl rfl ?_
      refine jr_if_ne rfl (fun z => absurd (by decide) z) (fun _ => ?_)
      refine jr_iload rfl rfl ?_
      refine jr_if_ne rfl (fun _ => ?_) (fun z => absurd z (nI_ne0 (by omega) (by omega)))
      refine jr_iload rfl rfl ?_
      refine jr_if_ne rfl (fun z => absurd (by decide) z) (fun _ => ?_)
      refine jr_iload rfl rfl ?_
      refine jr_if_ne rfl (fun z => absurd (by decide) z) (fun _ => ?_)
      refine jr_iload rfl rfl ?_
      refine jr_if_eq rfl (fun _ => ?_) (fun z => absurd (if_neg (by omega)) z)
      refine jr_aload rfl rfl ?_
      refine jr_cv0 (mc' := 0) (ms' := 0) rfl jm_MD_isGood_n jm_MD_isGood_f rfl rfl rfl rfl rfl rfl rfl (Nat.zero_le _) (Nat.zero_le _) ?_
      show jx_W (jm_MD_isGood, _, _, _, _, _, _) _ 0 0 0 [some _] [] _
      refine jr_aload rfl rfl ?_
      refine jr_getI rfl rfl ?_
      refine jr_if_ne rfl (fun z => absurd xg z) (fun _ => ?_)
      refine jr_ic rfl ?_
      refine jr_goto rfl ?_
      refine jr_zret rfl rfl rfl (Nat.zero_le _) (Nat.zero_le _) ?_
      refine jr_if_ne rfl (fun _ => ?_) (fun z => absurd z (by decide))
      refine jr_aload rfl rfl ?_
      refine jr_getR rfl rfl rfl rfl (Or.inl rfl) ?_
      refine jr_aload rfl rfl ?_
      refine jr_getI rfl rfl ?_
      refine jr_dup2 rfl ?_
      refine jr_iald (len := 2) rfl rfl xb (by omega) ?_
      refine jr_iload rfl rfl ?_
      refine jr_if_eq rfl (fun _ => ?_) (fun z => absurd (by decide) z)
      refine jr_ic rfl ?_
      refine jr_iadd rfl ?_
      refine jr_iast (len := 2) rfl rfl xb (by omega) ?_
      refine jr_aload rfl rfl ?_
      refine jr_dup_r rfl ?_
      refine jr_getI rfl rfl ?_
      refine jr_iload rfl rfl ?_
      refine jr_if_eq rfl (fun _ => ?_) (fun z => absurd (by decide) z)
      refine jr_ic rfl ?_
      refine jr_iadd rfl ?_
      refine jr_putI rfl rfl ?_
      refine jr_iload rfl rfl ?_
      refine jr_if_ne rfl (fun _ => ?_) (fun z => absurd z (nI_ne0 (by omega) (by omega)))
      refine jr_ic rfl ?_
      refine jr_ist6 rfl rfl ?_
      refine jr_aload rfl rfl ?_
      refine jr_cv0 (mc' := 0) (ms' := 0) rfl jm_MD_goOn_n jm_MD_goOn_f rfl rfl rfl rfl rfl rfl rfl (Nat.zero_le _) (Nat.zero_le _) ?_
      refine eM_goOn (B := B) (sz := sz) (t := t + 1) xt.1 xt.2.1 xt.2.2.1 xm.2.1 (fun h1 g1 m1 => ?_)
      refine jr_iload rfl rfl ?_
      refine jr_if_ne rfl (fun z => absurd (by decide) z) (fun _ => ?_)
      refine jr_iload rfl rfl ?_
      refine jr_if_eq rfl (fun _ => ?_) (fun z => absurd (if_neg (by omega)) z)
      refine jr_aload rfl rfl ?_
      refine jr_iload rfl rfl ?_
      refine jr_if_ne rfl (fun _ => ?_) (fun z => absurd z (nI_ne0 (by omega) (by omega)))
      refine jr_iload rfl rfl ?_
      refine jr_iload rfl rfl ?_
      refine jr_cv2 (mc' := 0) (ms' := 0) rfl jm_MD_emit_n jm_MD_emit_f rfl rfl rfl rfl rfl rfl rfl (Nat.zero_le _) (Nat.zero_le _) ?_
      show jx_W (jm_MD_emit, _, _, _, _, _, _) _ 0 0 0 [some _, some _, some _] [] _
      refine jr_aload rfl rfl ?_
      refine jr_getR rfl rfl rfl rfl (Or.inl rfl) ?_
      refine jr_aload rfl rfl ?_
      refine jr_getI rfl rfl ?_
      refine jr_iload rfl rfl ?_
      refine jr_iast (len := 1240) rfl rfl ((g1.2.2.2 45 (by decide)).trans xc) (by omega) ?_
      refine jr_aload rfl rfl ?_
      refine jr_getR rfl rfl rfl rfl (Or.inl rfl) ?_
      refine jr_aload rfl rfl ?_
      refine jr_getI rfl rfl ?_
      refine jr_iload rfl rfl ?_
      refine jr_iast (len := 1240) rfl rfl ((g1.2.2.2 45 (by decide)).trans xc) (by omega) ?_
      refine jr_aload rfl rfl ?_
      refine jr_dup_r rfl ?_
      refine jr_getI rfl rfl ?_
      refine jr_ic rfl ?_
      refine jr_iadd rfl ?_
      refine jr_putI rfl rfl ?_
      refine jr_vret rfl rfl (Nat.zero_le _) (Nat.zero_le _) ?_
      refine jr_ic rfl ?_
      refine jr_zret rfl rfl rfl (Nat.zero_le _) (Nat.zero_le _) ?_
      have e45 : jh_I h1 11 0 45 = nI (620 * β + c) := (g1.2.2.2 45 (by decide)).trans xc
      refine k _ ⟨?_, m1, ?_, ?_, ?_, ?_, ?_, ?_, ?_, ?_, ?_, ?_⟩ ?_
      · exact ⟨(g1.2.2.2 3 (by decide)).trans xt.1, hsz, (congrArg (fun z => jT_c z sz) (g1.1 65 0 (by decide))).trans xt.2.2.1, (g1.2.2.2 5 (by decide)).trans xt.2.2.2⟩
      · exact (g1.2.2.2 4 (by decide)).trans xg
      · exact (g1.2.2.2 44 (by decide)).trans xb
      · refine (congrFun (g1.1 69 0 (by decide)) β).trans ?_
        show upd (jh_I h 69 0) β (jh_I h 69 0 β + 1) β = _
        rw [jg_us, xu, jn_S]
      · refine (g1.2.2.2 48 (by decide)).trans ?_
        show upd (jh_I h 11 0) 48 (jh_I h 11 0 48 + 1) 48 = _
        rw [jg_us, xv, jn_S]
      · show upd (jh_I h1 11 0) 45 (jh_I h1 11 0 45 + 1) 45 = _
        rw [jg_us, e45, jn_S]
        rfl
      · show upd (jh_I h1 93 0) (620 * β + c) _ = _
        rw [g1.1 93 0 (by decide)]
        show upd (jh_I h 93 0) (620 * β + c) _ = _
        rw [xC]
      · show upd (jh_I h1 94 0) (620 * β + c) _ = _
        rw [g1.1 94 0 (by decide)]
        show upd (jh_I h 94 0) (620 * β + c) _ = _
        rw [xN]
      · exact (g1.2.2.2 47 (by decide)).trans xl
      · show jp_ok (jh_I h1 95 0) (jh_I h1 96 0) _
        rw [g1.1 95 0 (by decide), g1.1 96 0 (by decide)]
        exact xP
      · exact (g1.2.2.2 46 (by decide)).trans xi
      · refine ⟨fun a b z1 z2 z3 z4 z5 z6 => ?_, fun a b z1 => g1.2.1 a b z1, g1.2.2.1, fun f hf => ?_, fun q hq => ?_⟩
        · refine (if_neg (fun y => z1 y.1)).trans ((if_neg (fun y => z4 y.1)).trans ((if_neg (fun y => z3 y.1)).trans ?_))
          refine (g1.1 a b z1).trans ?_
          exact (if_neg (fun y => z1 y.1)).trans (if_neg (fun y => z2 y.1))
        · refine (jg_un (by omega)).trans ?_
          refine (g1.2.2.2 f (by omega)).trans ?_
          exact jg_un (by omega)
        · refine (congrFun (g1.1 69 0 (by decide)) q).trans ?_
          exact jg_un hq
    · refine jr_ic rfl ?_
      refine jr_goto rfl ?_
      refine jr_ist1 rfl rfl ?_
      refine jr_iload rfl rfl ?_
      refine jr_if_eq rfl (fun z => absurd z (by decide)) (fun _ => ?_)
      refine jr_aload rfl rfl ?_
      refine jr_lc rfl ?_
      refine jr_cv1 (mc' := 0) (ms' := 0) rfl jm_MD_isWord_n jm_MD_isWord_f rfl rfl rfl rfl rfl rfl rfl (Nat.zero_le _) (Nat.zero_le _) ?_
      refine eM_isWord xm (i := 28) (by decide) jT_W28 ?_
      refine jr_if_eq rfl (fun _ => ?_) (fun z => absurd (if_neg (by omega)) z)
      refine jr_ic rfl ?_
      refine jr_ist2 rfl rfl ?_
      refine jr_aload rfl rfl ?_
      refine jr_ic rfl ?_
      refine jr_cv1 (mc' := 0) (ms' := 0) rfl jm_MD_isSignHere_n jm_MD_isSignHere_f rfl rfl rfl rfl rfl rfl rfl (Nat.zero_le _) (Nat.zero_le _) ?_
      refine eM_isSignHere (s := 40) xt xm (by decide) ?_
      refine jr_ist3 rfl rfl ?_
      refine jr_aload rfl rfl ?_
      refine jr_cv0 (mc' := 0) (ms' := 0) rfl jm_MD_wordHere_n jm_MD_wordHere_f rfl rfl rfl rfl rfl rfl rfl (Nat.zero_le _) (Nat.zero_le _) ?_
      refine eM_wordHere xm ?_
      refine jr_ist4 rfl rfl ?_
      refine jr_aload rfl rfl ?_
      refine jr_getR rfl rfl rfl rfl (Or.inl rfl) ?_
      refine jr_aload rfl rfl ?_
      refine jr_getI rfl rfl ?_
      refine jr_iald (len := 2) rfl rfl xb (by omega) ?_
      rw [xu]
      refine jr_ic rfl ?_
      refine jr_icmp_eq rfl (fun z => absurd z (fun z => by have := jn_eq (show nI u = nI 90 from z) (by omega) (by decide); omega)) (fun _ => ?_)
      refine jr_aload rfl rfl ?_
      refine jr_getI rfl rfl ?_
      rw [xv]
      refine jr_ic rfl ?_
      refine jr_icmp_ne rfl (fun _ => ?_) (fun z => absurd z (fun z => by have := jn_eq (show nI v = nI 30 from z) (by omega) (by decide); omega))
      refine jr_ic rfl ?_
      refine jr_ist5 rfl rfl ?_
      refine jr_iload rfl rfl ?_
      refine jr_if_ne rfl (fun z => absurd (by decide) z) (fun _ => ?_)
      refine jr_iload rfl rfl ?_
      refine jr_if_ne rfl (fun _ => ?_) (fun z => absurd z (nI_ne0 (by omega) (by omega)))
      refine jr_iload rfl rfl ?_
      refine jr_if_ne rfl (fun z => absurd (by decide) z) (fun _ => ?_)
      refine jr_iload rfl rfl ?_
      refine jr_if_ne rfl (fun z => absurd (by decide) z) (fun _ => ?_)
      refine jr_iload rfl rfl ?_
      refine jr_if_eq rfl (fun _ => ?_) (fun z => absurd (if_neg (by omega)) z)
      refine jr_aload rfl rfl ?_
      refine jr_cv0 (mc' := 0) (ms' := 0) rfl jm_MD_isGood_n jm_MD_isGood_f rfl rfl rfl rfl rfl rfl rfl (Nat.zero_le _) (Nat.zero_le _) ?_
      show jx_W (jm_MD_isGood, _, _, _, _, _, _) _ 0 0 0 [some _] [] _
      refine jr_aload rfl rfl ?_
      refine jr_getI rfl rfl ?_
      refine jr_if_ne rfl (fun z => absurd xg z) (fun _ => ?_)
      refine jr_ic rfl ?_
      refine jr_goto rfl ?_
      refine jr_zret rfl rfl rfl (Nat.zero_le _) (Nat.zero_le _) ?_
      refine jr_if_ne rfl (fun _ => ?_) (fun z => absurd z (by decide))
      refine jr_aload rfl rfl ?_
      refine jr_getR rfl rfl rfl rfl (Or.inl rfl) ?_
      refine jr_aload rfl rfl ?_
      refine jr_getI rfl rfl ?_
      refine jr_dup2 rfl ?_
      refine jr_iald (len := 2) rfl rfl xb (by omega) ?_
      refine jr_iload rfl rfl ?_
      refine jr_if_eq rfl (fun _ => ?_) (fun z => absurd (by decide) z)
      refine jr_ic rfl ?_
      refine jr_iadd rfl ?_
      refine jr_iast (len := 2) rfl rfl xb (by omega) ?_
      refine jr_aload rfl rfl ?_
      refine jr_dup_r rfl ?_
      refine jr_getI rfl rfl ?_
      refine jr_iload rfl rfl ?_
      refine jr_if_eq rfl (fun _ => ?_) (fun z => absurd (by decide) z)
      refine jr_ic rfl ?_
      refine jr_iadd rfl ?_
      refine jr_putI rfl rfl ?_
      refine jr_iload rfl rfl ?_
      refine jr_if_ne rfl (fun _ => ?_) (fun z => absurd z (nI_ne0 (by omega) (by omega)))
      refine jr_ic rfl ?_
      refine jr_ist6 rfl rfl ?_
      refine jr_aload rfl rfl ?_
      refine jr_cv0 (mc' := 0) (ms' := 0) rfl jm_MD_goOn_n jm_MD_goOn_f rfl rfl rfl rfl rfl rfl rfl (Nat.zero_le _) (Nat.zero_le _) ?_
      refine eM_goOn (B := B) (sz := sz) (t := t + 1) xt.1 xt.2.1 xt.2.2.1 xm.2.1 (fun h1 g1 m1 => ?_)
      refine jr_iload rfl rfl ?_
      refine jr_if_ne rfl (fun z => absurd (by decide) z) (fun _ => ?_)
      refine jr_iload rfl rfl ?_
      refine jr_if_eq rfl (fun _ => ?_) (fun z => absurd (if_neg (by omega)) z)
      refine jr_aload rfl rfl ?_
      refine jr_iload rfl rfl ?_
      refine jr_if_ne rfl (fun _ => ?_) (fun z => absurd z (nI_ne0 (by omega) (by omega)))
      refine jr_iload rfl rfl ?_
      refine jr_iload rfl rfl ?_
      refine jr_cv2 (mc' := 0) (ms' := 0) rfl jm_MD_emit_n jm_MD_emit_f rfl rfl rfl rfl rfl rfl rfl (Nat.zero_le _) (Nat.zero_le _) ?_
      show jx_W (jm_MD_emit, _, _, _, _, _, _) _ 0 0 0 [some _, some _, some _] [] _
      refine jr_aload rfl rfl ?_
      refine jr_getR rfl rfl rfl rfl (Or.inl rfl) ?_
      refine jr_aload rfl rfl ?_
      refine jr_getI rfl rfl ?_
      refine jr_iload rfl rfl ?_
      refine jr_iast (len := 1240) rfl rfl ((g1.2.2.2 45 (by decide)).trans xc) (by omega) ?_
      refine jr_aload rfl rfl ?_
      refine jr_getR rfl rfl rfl rfl (Or.inl rfl) ?_
      refine jr_aload rfl rfl ?_
      refine jr_getI rfl rfl ?_
      refine jr_iload rfl rfl ?_
      refine jr_iast (len := 1240) rfl rfl ((g1.2.2.2 45 (by decide)).trans xc) (by omega) ?_
      refine jr_aload rfl rfl ?_
      refine jr_dup_r rfl ?_
      refine jr_getI rfl rfl ?_
      refine jr_ic rfl ?_
      refine jr_iadd rfl ?_
      refine jr_putI rfl rfl ?_
      refine jr_vret rfl rfl (Nat.zero_le _) (Nat.zero_le _) ?_
      refine jr_ic rfl ?_
      refine jr_zret rfl rfl rfl (Nat.zero_le _) (Nat.zero_le _) ?_
      have e45 : jh_I h1 11 0 45 = nI (620 * β + c) := (g1.2.2.2 45 (by decide)).trans xc
      refine k _ ⟨?_, m1, ?_, ?_, ?_, ?_, ?_, ?_, ?_, ?_, ?_, ?_⟩ ?_
      · exact ⟨(g1.2.2.2 3 (by decide)).trans xt.1, hsz, (congrArg (fun z => jT_c z sz) (g1.1 65 0 (by decide))).trans xt.2.2.1, (g1.2.2.2 5 (by decide)).trans xt.2.2.2⟩
      · exact (g1.2.2.2 4 (by decide)).trans xg
      · exact (g1.2.2.2 44 (by decide)).trans xb
      · refine (congrFun (g1.1 69 0 (by decide)) β).trans ?_
        show upd (jh_I h 69 0) β (jh_I h 69 0 β + 1) β = _
        rw [jg_us, xu, jn_S]
      · refine (g1.2.2.2 48 (by decide)).trans ?_
        show upd (jh_I h 11 0) 48 (jh_I h 11 0 48 + 1) 48 = _
        rw [jg_us, xv, jn_S]
      · show upd (jh_I h1 11 0) 45 (jh_I h1 11 0 45 + 1) 45 = _
        rw [jg_us, e45, jn_S]
        rfl
      · show upd (jh_I h1 93 0) (620 * β + c) _ = _
        rw [g1.1 93 0 (by decide)]
        show upd (jh_I h 93 0) (620 * β + c) _ = _
        rw [xC]
      · show upd (jh_I h1 94 0) (620 * β + c) _ = _
        rw [g1.1 94 0 (by decide)]
        show upd (jh_I h 94 0) (620 * β + c) _ = _
        rw [xN]
      · exact (g1.2.2.2 47 (by decide)).trans xl
      · show jp_ok (jh_I h1 95 0) (jh_I h1 96 0) _
        rw [g1.1 95 0 (by decide), g1.1 96 0 (by decide)]
        exact xP
      · exact (g1.2.2.2 46 (by decide)).trans xi
      · refine ⟨fun a b z1 z2 z3 z4 z5 z6 => ?_, fun a b z1 => g1.2.1 a b z1, g1.2.2.1, fun f hf => ?_, fun q hq => ?_⟩
        · refine (if_neg (fun y => z1 y.1)).trans ((if_neg (fun y => z4 y.1)).trans ((if_neg (fun y => z3 y.1)).trans ?_))
          refine (g1.1 a b z1).trans ?_
          exact (if_neg (fun y => z1 y.1)).trans (if_neg (fun y => z2 y.1))
        · refine (jg_un (by omega)).trans ?_
          refine (g1.2.2.2 f (by omega)).trans ?_
          exact jg_un (by omega)
        · refine (congrFun (g1.1 69 0 (by decide)) q).trans ?_
          exact jg_un hq

set_option maxHeartbeats 800000 in
set_option maxRecDepth 100000 in
theorem eM_unit_n {d : Nat} {h : jx_H} {Q : Option jx_V → jx_H → Prop} {B : Nat → Int32} {sz β t u v c : Nat} {C N : Nat → Int32} {P : List (Nat × Int32)} {i w : Nat} {s : Int32}  (hx : jX h B sz β t u v c C N ((w, s) :: P) i) (hβ : β < 2) (hP : P.length < 60) (hK : jT_K B sz t = 2) (hwh : jT_wh (jT_K B sz t) = 0) (hu : u < 90) (hv : v < 30) (hc : c < 620) (k : ∀ h' : jx_H, jX h' B sz β (t + 1) (u + 1) (v + 1) (c + 1) (upd C (620 * β + c) 110) (upd N (620 * β + c) (nI (jT_v B sz (jT_p B sz t)))) ((w, s) :: P) i → jX_F β h h' → Q (some (jv_i 0)) h')  : jx_Ev jm_MD_unit (d + 6) 0 0 false 1 [jv_r 11 0] h Q := by
  show jx_W (jm_MD_unit, d + 6, 0, 0, false, 1, _) Q 0 0 0 [some (jv_r 11 0), none, none, none, none, none, none] [] _
  obtain ⟨xt, xm, xg, xb, xu, xv, xc, xC, xN, xl, xP, xi⟩ := hx
  have xl2 : jh_I h 11 0 47 = nI (P.length + 1) := xl
  have hp := @jT_p_le B sz t
  have hsz := xt.2.1
  refine jr_aload rfl rfl ?_
  refine jr_getR rfl rfl rfl rfl (Or.inl rfl) ?_
  refine jr_aload rfl rfl ?_
  refine jr_getI rfl rfl ?_
  refine jr_ic rfl ?_
  refine jr_isub rfl ?_
  refine jr_iald (len := 90) rfl rfl (jn_sub xl2 (show _ = nI 1 from rfl) (by omega)) (by omega) ?_
  rw [show jh_I h 95 0 (P.length + 1 - 1) = nI w from xP.1]
  refine jr_ic rfl ?_
  refine jr_icmp_le rfl (fun c8 => ?_) (fun c8 => ?_)
  · refine jr_ic rfl ?_
    refine jr_goto rfl ?_
    refine jr_ist1 rfl rfl ?_
    refine jr_iload rfl rfl ?_
    refine jr_if_eq rfl (fun z => absurd z (by decide)) (fun _ => ?_)
    refine jr_aload rfl rfl ?_
    refine jr_lc rfl ?_
    refine jr_cv1 (mc' := 0) (ms' := 0) rfl jm_MD_isWord_n jm_MD_isWord_f rfl rfl rfl rfl rfl rfl rfl (Nat.zero_le _) (Nat.zero_le _) ?_
    refine eM_isWord xm (i := 28) (by decide) jT_W28 ?_
    refine jr_if_eq rfl (fun _ => ?_) (fun z => absurd (if_neg (by omega)) z)
    refine jr_ic rfl ?_
    refine jr_ist2 rfl rfl ?_
    refine jr_aload rfl rfl ?_
    refine jr_ic rfl ?_
    refine jr_cv1 (mc' := 0) (ms' := 0) rfl jm_MD_isSignHere_n jm_MD_isSignHere_f rfl rfl rfl rfl rfl rfl rfl (Nat.zero_le _) (Nat.zero_le _) ?_
    refine eM_isSignHere (s := 40) xt xm (by decide) ?_
    refine jr_ist3 rfl rfl ?_
    refine jr_aload rfl rfl ?_
    refine jr_cv0 (mc' := 0) (ms' := 0) rfl jm_MD_wordHere_n jm_MD_wordHere_f rfl rfl rfl rfl rfl rfl rfl (Nat.zero_le _) (Nat.zero_le _) ?_
    refine eM_wordHere xm ?_
    refine jr_ist4 rfl rfl ?_
    refine jr_aload rfl rfl ?_
    refine jr_getR rfl rfl rfl rfl (Or.inl rfl) ?_
    refine jr_aload rfl rfl ?_
    refine jr_getI rfl rfl ?_
    refine jr_iald (len := 2) rfl rfl xb (by omega) ?_
    rw [xu]
    refine jr_ic rfl ?_
    refine jr_icmp_eq rfl (fun z => absurd z (fun z => by have := jn_eq (show nI u = nI 90 from z) (by omega) (by decide); omega)) (fun _ => ?_)
    refine jr_aload rfl rfl ?_
    refine jr_getI rfl rfl ?_
    rw [xv]
    refine jr_ic rfl ?_
    refine jr_icmp_ne rfl (fun _ => ?_) (fun z => absurd z (fun z => by have := jn_eq (show nI v = nI 30 from z) (by omega) (by decide); omega))
    refine jr_ic rfl ?_
    refine jr_ist5 rfl rfl ?_
    refine jr_iload rfl rfl ?_
    refine jr_if_ne rfl (fun z => absurd (by decide) z) (fun _ => ?_)
    refine jr_iload rfl rfl ?_
    refine jr_if_ne rfl (fun z => absurd (show nI (jT_wh (jT_K B sz t)) = 0 by rw [hwh]; rfl) z) (fun _ => ?_)
    refine jr_aload rfl rfl ?_
    refine jr_getI rfl rfl ?_
    rw [xm.2.2.1]
    refine jr_ic rfl ?_
    refine jr_icmp_eq rfl (fun _ => ?_) (fun z => absurd (jT_mt4.mpr hK) z)
    refine jr_iload rfl rfl ?_
    refine jr_if_ne rfl (fun z => absurd (by decide) z) (fun _ => ?_)
    refine jr_iload rfl rfl ?_
    refine jr_if_ne rfl (fun z => absurd (by decide) z) (fun _ => ?_)
    refine jr_iload rfl rfl ?_
    refine jr_if_eq rfl (fun _ => ?_) (fun z => absurd (if_neg (by omega)) z)
    refine jr_aload rfl rfl ?_
    refine jr_cv0 (mc' := 0) (ms' := 0) rfl jm_MD_isGood_n jm_MD_isGood_f rfl rfl rfl rfl rfl rfl rfl (Nat.zero_le _) (Nat.zero_le _) ?_
    show jx_W (jm_MD_isGood, _, _, _, _, _, _) _ 0 0 0 [some _] [] _
    refine jr_aload rfl rfl ?_
    refine jr_getI rfl rfl ?_
    refine jr_if_ne rfl (fun z => absurd xg z) (fun _ => ?_)
    refine jr_ic rfl ?_
    refine jr_goto rfl ?_
    refine jr_zret rfl rfl rfl (Nat.zero_le _) (Nat.zero_le _) ?_
    refine jr_if_ne rfl (fun _ => ?_) (fun z => absurd z (by decide))
    refine jr_aload rfl rfl ?_
    refine jr_getR rfl rfl rfl rfl (Or.inl rfl) ?_
    refine jr_aload rfl rfl ?_
    refine jr_getI rfl rfl ?_
    refine jr_dup2 rfl ?_
    refine jr_iald (len := 2) rfl rfl xb (by omega) ?_
    refine jr_iload rfl rfl ?_
    refine jr_if_eq rfl (fun _ => ?_) (fun z => absurd (by decide) z)
    refine jr_ic rfl ?_
    refine jr_iadd rfl ?_
    refine jr_iast (len := 2) rfl rfl xb (by omega) ?_
    refine jr_aload rfl rfl ?_
    refine jr_dup_r rfl ?_
    refine jr_getI rfl rfl ?_
    refine jr_iload rfl rfl ?_
    refine jr_if_eq rfl (fun _ => ?_) (fun z => absurd (by decide) z)
    refine jr_ic rfl ?_
    refine jr_iadd rfl ?_
    refine jr_putI rfl rfl ?_
    refine jr_iload rfl rfl ?_
    refine jr_if_ne rfl (fun z => absurd (show nI (jT_wh (jT_K B sz t)) = 0 by rw [hwh]; rfl) z) (fun _ => ?_)
    refine jr_aload rfl rfl ?_
    refine jr_getI rfl rfl ?_
    refine jr_goto rfl ?_
    refine jr_ist6 rfl rfl ?_
    refine jr_aload rfl rfl ?_
    refine jr_cv0 (mc' := 0) (ms' := 0) rfl jm_MD_goOn_n jm_MD_goOn_f rfl rfl rfl rfl rfl rfl rfl (Nat.zero_le _) (Nat.zero_le _) ?_
    refine eM_goOn (B := B) (sz := sz) (t := t + 1) xt.1 xt.2.1 xt.2.2.1 xm.2.1 (fun h1 g1 m1 => ?_)
    refine jr_iload rfl rfl ?_
    refine jr_if_ne rfl (fun z => absurd (by decide) z) (fun _ => ?_)
    refine jr_iload rfl rfl ?_
    refine jr_if_eq rfl (fun _ => ?_) (fun z => absurd (if_neg (by omega)) z)
    refine jr_aload rfl rfl ?_
    refine jr_iload rfl rfl ?_
    refine jr_if_ne rfl (fun z => absurd (show nI (jT_wh (jT_K B sz t)) = 0 by rw [hwh]; rfl) z) (fun _ => ?_)
    refine jr_ic rfl ?_
    refine jr_goto rfl ?_
    refine jr_iload rfl rfl ?_
    refine jr_cv2 (mc' := 0) (ms' := 0) rfl jm_MD_emit_n jm_MD_emit_f rfl rfl rfl rfl rfl rfl rfl (Nat.zero_le _) (Nat.zero_le _) ?_
    show jx_W (jm_MD_emit, _, _, _, _, _, _) _ 0 0 0 [some _, some _, some _] [] _
    refine jr_aload rfl rfl ?_
    refine jr_getR rfl rfl rfl rfl (Or.inl rfl) ?_
    refine jr_aload rfl rfl ?_
    refine jr_getI rfl rfl ?_
    refine jr_iload rfl rfl ?_
    refine jr_iast (len := 1240) rfl rfl ((g1.2.2.2 45 (by decide)).trans xc) (by omega) ?_
    refine jr_aload rfl rfl ?_
    refine jr_getR rfl rfl rfl rfl (Or.inl rfl) ?_
    refine jr_aload rfl rfl ?_
    refine jr_getI rfl rfl ?_
    refine jr_iload rfl rfl ?_
    refine jr_iast (len := 1240) rfl rfl ((g1.2.2.2 45 (by decide)).trans xc) (by omega) ?_
    refine jr_aload rfl rfl ?_
    refine jr_dup_r rfl ?_
    refine jr_getI rfl rfl ?_
    refine jr_ic rfl ?_
    refine jr_iadd rfl ?_
    refine jr_putI rfl rfl ?_
    refine jr_vret rfl rfl (Nat.zero_le _) (Nat.zero_le _) ?_
    refine jr_ic rfl ?_
    refine jr_zret rfl rfl rfl (Nat.zero_le _) (Nat.zero_le _) ?_
    have e45 : jh_I h1 11 0 45 = nI (620 * β + c) := (g1.2.2.2 45 (by decide)).trans xc
    refine k _ ⟨?_, m1, ?_, ?_, ?_, ?_, ?_, ?_, ?_, ?_, ?_, ?_⟩ ?_
    · exact ⟨(g1.2.2.2 3 (by decide)).trans xt.1, hsz, (congrArg (fun z => jT_c z sz) (g1.1 65 0 (by decide))).trans xt.2.2.1, (g1.2.2.2 5 (by decide)).trans xt.2.2.2⟩
    · exact (g1.2.2.2 4 (by decide)).trans xg
    · exact (g1.2.2.2 44 (by decide)).trans xb
    · refine (congrFun (g1.1 69 0 (by decide)) β).trans ?_
      show upd (jh_I h 69 0) β (jh_I h 69 0 β + 1) β = _
      rw [jg_us, xu, jn_S]
    · refine (g1.2.2.2 48 (by decide)).trans ?_
      show upd (jh_I h 11 0) 48 (jh_I h 11 0 48 + 1) 48 = _
      rw [jg_us, xv, jn_S]
    · show upd (jh_I h1 11 0) 45 (jh_I h1 11 0 45 + 1) 45 = _
      rw [jg_us, e45, jn_S]
      rfl
    · show upd (jh_I h1 93 0) (620 * β + c) _ = _
      rw [g1.1 93 0 (by decide)]
      show upd (jh_I h 93 0) (620 * β + c) _ = _
      rw [xC]
    · show upd (jh_I h1 94 0) (620 * β + c) _ = _
      rw [g1.1 94 0 (by decide)]
      show upd (jh_I h 94 0) (620 * β + c) _ = _
      rw [xN]
      exact congrArg (upd N (620 * β + c)) (xm.2.2.2.1 hK)
    · exact (g1.2.2.2 47 (by decide)).trans xl
    · show jp_ok (jh_I h1 95 0) (jh_I h1 96 0) _
      rw [g1.1 95 0 (by decide), g1.1 96 0 (by decide)]
      exact xP
    · exact (g1.2.2.2 46 (by decide)).trans xi
    · refine ⟨fun a b z1 z2 z3 z4 z5 z6 => ?_, fun a b z1 => g1.2.1 a b z1, g1.2.2.1, fun f hf => ?_, fun q hq => ?_⟩
      · refine (if_neg (fun y => z1 y.1)).trans ((if_neg (fun y => z4 y.1)).trans ((if_neg (fun y => z3 y.1)).trans ?_))
        refine (g1.1 a b z1).trans ?_
        exact (if_neg (fun y => z1 y.1)).trans (if_neg (fun y => z2 y.1))
      · refine (jg_un (by omega)).trans ?_
        refine (g1.2.2.2 f (by omega)).trans ?_
        exact jg_un (by omega)
      · refine (congrFun (g1.1 69 0 (by decide)) q).trans ?_
        exact jg_un hq
  · refine jr_aload rfl rfl ?_
    refine jr_getR rfl rfl rfl rfl (Or.inl rfl) ?_
    refine jr_aload rfl rfl ?_
    refine jr_getI rfl rfl ?_
    refine jr_ic rfl ?_
    refine jr_isub rfl ?_
    refine jr_iald (len := 90) rfl rfl (jn_sub xl2 (show _ = nI 1 from rfl) (by omega)) (by omega) ?_
    rw [show jh_I h 95 0 (P.length + 1 - 1) = nI w from xP.1]
    refine jr_ic rfl ?_
    refine jr_icmp_lt rfl (fun c17 => ?_) (fun c17 => ?_)
    · refine jr_ic rfl ?_
      refine jr_ist1 rfl rfl ?_
      refine jr_iload rfl rfl ?_
      refine jr_if_eq rfl (fun _ => ?_) (fun z => absurd (by decide) z)
      refine jr_ic rfl ?_
      refine jr_ist2 rfl rfl ?_
      refine jr_aload rfl rfl ?_
      refine jr_ic rfl ?_
      refine jr_cv1 (mc' := 0) (ms' := 0) rfl jm_MD_isSignHere_n jm_MD_isSignHere_f rfl rfl rfl rfl rfl rfl rfl (Nat.zero_le _) (Nat.zero_le _) ?_
      refine eM_isSignHere (s := 40) xt xm (by decide) ?_
      refine jr_ist3 rfl rfl ?_
      refine jr_aload rfl rfl ?_
      refine jr_cv0 (mc' := 0) (ms' := 0) rfl jm_MD_wordHere_n jm_MD_wordHere_f rfl rfl rfl rfl rfl rfl rfl (Nat.zero_le _) (Nat.zero_le _) ?_
      refine eM_wordHere xm ?_
      refine jr_ist4 rfl rfl ?_
      refine jr_aload rfl rfl ?_
      refine jr_getR rfl rfl rfl rfl (Or.inl rfl) ?_
      refine jr_aload rfl rfl ?_
      refine jr_getI rfl rfl ?_
      refine jr_iald (len := 2) rfl rfl xb (by omega) ?_
      rw [xu]
      refine jr_ic rfl ?_
      refine jr_icmp_eq rfl (fun z => absurd z (fun z => by have := jn_eq (show nI u = nI 90 from z) (by omega) (by decide); omega)) (fun _ => ?_)
      refine jr_aload rfl rfl ?_
      refine jr_getI rfl rfl ?_
      rw [xv]
      refine jr_ic rfl ?_
      refine jr_icmp_ne rfl (fun _ => ?_) (fun z => absurd z (fun z => by have := jn_eq (show nI v = nI 30 from z) (by omega) (by decide); omega))
      refine jr_ic rfl ?_
      refine jr_ist5 rfl rfl ?_
      refine jr_iload rfl rfl ?_
      refine jr_if_ne rfl (fun z => absurd (by decide) z) (fun _ => ?_)
      refine jr_iload rfl rfl ?_
      refine jr_if_ne rfl (fun z => absurd (show nI (jT_wh (jT_K B sz t)) = 0 by rw [hwh]; rfl) z) (fun _ => ?_)
      refine jr_aload rfl rfl ?_
      refine jr_getI rfl rfl ?_
      rw [xm.2.2.1]
      refine jr_ic rfl ?_
      refine jr_icmp_eq rfl (fun _ => ?_) (fun z => absurd (jT_mt4.mpr hK) z)
      refine jr_iload rfl rfl ?_
      refine jr_if_ne rfl (fun z => absurd (by decide) z) (fun _ => ?_)
      refine jr_iload rfl rfl ?_
      refine jr_if_ne rfl (fun z => absurd (by decide) z) (fun _ => ?_)
      refine jr_iload rfl rfl ?_
      refine jr_if_eq rfl (fun _ => ?_) (fun z => absurd (if_neg (by omega)) z)
      refine jr_aload rfl rfl ?_
      refine jr_cv0 (mc' := 0) (ms' := 0) rfl jm_MD_isGood_n jm_MD_isGood_f rfl rfl rfl rfl rfl rfl rfl (Nat.zero_le _) (Nat.zero_le _) ?_
      show jx_W (jm_MD_isGood, _, _, _, _, _, _) _ 0 0 0 [some _] [] _
      refine jr_aload rfl rfl ?_
      refine jr_getI rfl rfl ?_
      refine jr_if_ne rfl (fun z => absurd xg z) (fun _ => ?_)
      refine jr_ic rfl ?_
      refine jr_goto rfl ?_
      refine jr_zret rfl rfl rfl (Nat.zero_le _) (Nat.zero_le _) ?_
      refine jr_if_ne rfl (fun _ => ?_) (fun z => absurd z (by decide))
      refine jr_aload rfl rfl ?_
      refine jr_getR rfl rfl rfl rfl (Or.inl rfl) ?_
      refine jr_aload rfl rfl ?_
      refine jr_getI rfl rfl ?_
      refine jr_dup2 rfl ?_
      refine jr_iald (len := 2) rfl rfl xb (by omega) ?_
      refine jr_iload rfl rfl ?_
      refine jr_if_eq rfl (fun _ => ?_) (fun z => absurd (by decide) z)
      refine jr_ic rfl ?_
      refine jr_iadd rfl ?_
      refine jr_iast (len := 2) rfl rfl xb (by omega) ?_
      refine jr_aload rfl rfl ?_
      refine jr_dup_r rfl ?_
      refine jr_getI rfl rfl ?_
      refine jr_iload rfl rfl ?_
      refine jr_if_eq rfl (fun _ => ?_) (fun z => absurd (by decide) z)
      refine jr_ic rfl ?_
      refine jr_iadd rfl ?_
      refine jr_putI rfl rfl ?_
      refine jr_iload rfl rfl ?_
      refine jr_if_ne rfl (fun z => absurd (show nI (jT_wh (jT_K B sz t)) = 0 by rw [hwh]; rfl) z) (fun _ => ?_)
      refine jr_aload rfl rfl ?_
      refine jr_getI rfl rfl ?_
      refine jr_goto rfl ?_
      refine jr_ist6 rfl rfl ?_
      refine jr_aload rfl rfl ?_
      refine jr_cv0 (mc' := 0) (ms' := 0) rfl jm_MD_goOn_n jm_MD_goOn_f rfl rfl rfl rfl rfl rfl rfl (Nat.zero_le _) (Nat.zero_le _) ?_
      refine eM_goOn (B := B) (sz := sz) (t := t + 1) xt.1 xt.2.1 xt.2.2.1 xm.2.1 (fun h1 g1 m1 => ?_)
      refine jr_iload rfl rfl ?_
      refine jr_if_ne rfl (fun z => absurd (by decide) z) (fun _ => ?_)
      refine jr_iload rfl rfl ?_
      refine jr_if_eq rfl (fun _ => ?_) (fun z => absurd (if_neg (by omega)) z)
      refine jr_aload rfl rfl ?_
      refine jr_iload rfl rfl ?_
      refine jr_if_ne rfl (fun z => absurd (show nI (jT_wh (jT_K B sz t)) = 0 by rw [hwh]; rfl) z) (fun _ => ?_)
      refine jr_ic rfl ?_
      refine jr_goto rfl ?_
      refine jr_iload rfl rfl ?_
      refine jr_cv2 (mc' := 0) (ms' := 0) rfl jm_MD_emit_n jm_MD_emit_f rfl rfl rfl rfl rfl rfl rfl (Nat.zero_le _) (Nat.zero_le _) ?_
      show jx_W (jm_MD_emit, _, _, _, _, _, _) _ 0 0 0 [some _, some _, some _] [] _
      refine jr_aload rfl rfl ?_
      refine jr_getR rfl rfl rfl rfl (Or.inl rfl) ?_
      refine jr_aload rfl rfl ?_
      refine jr_getI rfl rfl ?_
      refine jr_iload rfl rfl ?_
      refine jr_iast (len := 1240) rfl rfl ((g1.2.2.2 45 (by decide)).trans xc) (by omega) ?_
      refine jr_aload rfl rfl ?_
      refine jr_getR rfl rfl rfl rfl (Or.inl rfl) ?_
      refine jr_aload rfl rfl ?_
      refine jr_getI rfl rfl ?_
      refine jr_iload rfl rfl ?_
      refine jr_iast (len := 1240) rfl rfl ((g1.2.2.2 45 (by decide)).trans xc) (by omega) ?_
      refine jr_aload rfl rfl ?_
      refine jr_dup_r rfl ?_
      refine jr_getI rfl rfl ?_
      refine jr_ic rfl ?_
      refine jr_iadd rfl ?_
      refine jr_putI rfl rfl ?_
      refine jr_vret rfl rfl (Nat.zero_le _) (Nat.zero_le _) ?_
      refine jr_ic rfl ?_
      refine jr_zret rfl rfl rfl (Nat.zero_le _) (Nat.zero_le _) ?_
      have e45 : jh_I h1 11 0 45 = nI (620 * β + c) := (g1.2.2.2 45 (by decide)).trans xc
      refine k _ ⟨?_, m1, ?_, ?_, ?_, ?_, ?_, ?_, ?_, ?_, ?_, ?_⟩ ?_
      · exact ⟨(g1.2.2.2 3 (by decide)).trans xt.1, hsz, (congrArg (fun z => jT_c z sz) (g1.1 65 0 (by decide))).trans xt.2.2.1, (g1.2.2.2 5 (by decide)).trans xt.2.2.2⟩
      · exact (g1.2.2.2 4 (by decide)).trans xg
      · exact (g1.2.2.2 44 (by decide)).trans xb
      · refine (congrFun (g1.1 69 0 (by decide)) β).trans ?_
        show upd (jh_I h 69 0) β (jh_I h 69 0 β + 1) β = _
        rw [jg_us, xu, jn_S]
      · refine (g1.2.2.2 48 (by decide)).trans ?_
        show upd (jh_I h 11 0) 48 (jh_I h 11 0 48 + 1) 48 = _
        rw [jg_us, xv, jn_S]
      · show upd (jh_I h1 11 0) 45 (jh_I h1 11 0 45 + 1) 45 = _
        rw [jg_us, e45, jn_S]
        rfl
      · show upd (jh_I h1 93 0) (620 * β + c) _ = _
        rw [g1.1 93 0 (by decide)]
        show upd (jh_I h 93 0) (620 * β + c) _ = _
        rw [xC]
      · show upd (jh_I h1 94 0) (620 * β + c) _ = _
        rw [g1.1 94 0 (by decide)]
        show upd (jh_I h 94 0) (620 * β + c) _ = _
        rw [xN]
        exact congrArg (upd N (620 * β + c)) (xm.2.2.2.1 hK)
      · exact (g1.2.2.2 47 (by decide)).trans xl
      · show jp_ok (jh_I h1 95 0) (jh_I h1 96 0) _
        rw [g1.1 95 0 (by decide), g1.1 96 0 (by decide)]
        exact xP
      · exact (g1.2.2.2 46 (by decide)).trans xi
      · refine ⟨fun a b z1 z2 z3 z4 z5 z6 => ?_, fun a b z1 => g1.2.1 a b z1, g1.2.2.1, fun f hf => ?_, fun q hq => ?_⟩
        · refine (if_neg (fun y => z1 y.1)).trans ((if_neg (fun y => z4 y.1)).trans ((if_neg (fun y => z3 y.1)).trans ?_))
          refine (g1.1 a b z1).trans ?_
          exact (if_neg (fun y => z1 y.1)).trans (if_neg (fun y => z2 y.1))
        · refine (jg_un (by omega)).trans ?_
          refine (g1.2.2.2 f (by omega)).trans ?_
          exact jg_un (by omega)
        · refine (congrFun (g1.1 69 0 (by decide)) q).trans ?_
          exact jg_un hq
    · refine jr_ic rfl ?_
      refine jr_goto rfl ?_
      refine jr_ist1 rfl rfl ?_
      refine jr_iload rfl rfl ?_
      refine jr_if_eq rfl (fun z => absurd z (by decide)) (fun _ => ?_)
      refine jr_aload rfl rfl ?_
      refine jr_lc rfl ?_
      refine jr_cv1 (mc' := 0) (ms' := 0) rfl jm_MD_isWord_n jm_MD_isWord_f rfl rfl rfl rfl rfl rfl rfl (Nat.zero_le _) (Nat.zero_le _) ?_
      refine eM_isWord xm (i := 28) (by decide) jT_W28 ?_
      refine jr_if_eq rfl (fun _ => ?_) (fun z => absurd (if_neg (by omega)) z)
      refine jr_ic rfl ?_
      refine jr_ist2 rfl rfl ?_
      refine jr_aload rfl rfl ?_
      refine jr_ic rfl ?_
      refine jr_cv1 (mc' := 0) (ms' := 0) rfl jm_MD_isSignHere_n jm_MD_isSignHere_f rfl rfl rfl rfl rfl rfl rfl (Nat.zero_le _) (Nat.zero_le _) ?_
      refine eM_isSignHere (s := 40) xt xm (by decide) ?_
      refine jr_ist3 rfl rfl ?_
      refine jr_aload rfl rfl ?_
      refine jr_cv0 (mc' := 0) (ms' := 0) rfl jm_MD_wordHere_n jm_MD_wordHere_f rfl rfl rfl rfl rfl rfl rfl (Nat.zero_le _) (Nat.zero_le _) ?_
      refine eM_wordHere xm ?_
      refine jr_ist4 rfl rfl ?_
      refine jr_aload rfl rfl ?_
      refine jr_getR rfl rfl rfl rfl (Or.inl rfl) ?_
      refine jr_aload rfl rfl ?_
      refine jr_getI rfl rfl ?_
      refine jr_iald (len := 2) rfl rfl xb (by omega) ?_
      rw [xu]
      refine jr_ic rfl ?_
      refine jr_icmp_eq rfl (fun z => absurd z (fun z => by have := jn_eq (show nI u = nI 90 from z) (by omega) (by decide); omega)) (fun _ => ?_)
      refine jr_aload rfl rfl ?_
      refine jr_getI rfl rfl ?_
      rw [xv]
      refine jr_ic rfl ?_
      refine jr_icmp_ne rfl (fun _ => ?_) (fun z => absurd z (fun z => by have := jn_eq (show nI v = nI 30 from z) (by omega) (by decide); omega))
      refine jr_ic rfl ?_
      refine jr_ist5 rfl rfl ?_
      refine jr_iload rfl rfl ?_
      refine jr_if_ne rfl (fun z => absurd (by decide) z) (fun _ => ?_)
      refine jr_iload rfl rfl ?_
      refine jr_if_ne rfl (fun z => absurd (show nI (jT_wh (jT_K B sz t)) = 0 by rw [hwh]; rfl) z) (fun _ => ?_)
      refine jr_aload rfl rfl ?_
      refine jr_getI rfl rfl ?_
      rw [xm.2.2.1]
      refine jr_ic rfl ?_
      refine jr_icmp_eq rfl (fun _ => ?_) (fun z => absurd (jT_mt4.mpr hK) z)
      refine jr_iload rfl rfl ?_
      refine jr_if_ne rfl (fun z => absurd (by decide) z) (fun _ => ?_)
      refine jr_iload rfl rfl ?_
      refine jr_if_ne rfl (fun z => absurd (by decide) z) (fun _ => ?_)
      refine jr_iload rfl rfl ?_
      refine jr_if_eq rfl (fun _ => ?_) (fun z => absurd (if_neg (by omega)) z)
      refine jr_aload rfl rfl ?_
      refine jr_cv0 (mc' := 0) (ms' := 0) rfl jm_MD_isGood_n jm_MD_isGood_f rfl rfl rfl rfl rfl rfl rfl (Nat.zero_le _) (Nat.zero_le _) ?_
      show jx_W (jm_MD_isGood, _, _, _, _, _, _) _ 0 0 0 [some _] [] _
      refine jr_aload rfl rfl ?_
      refine jr_getI rfl rfl ?_
      refine jr_if_ne rfl (fun z => absurd xg z) (fun _ => ?_)
      refine jr_ic rfl ?_
      refine jr_goto rfl ?_
      refine jr_zret rfl rfl rfl (Nat.zero_le _) (Nat.zero_le _) ?_
      refine jr_if_ne rfl (fun _ => ?_) (fun z => absurd z (by decide))
      refine jr_aload rfl rfl ?_
      refine jr_getR rfl rfl rfl rfl (Or.inl rfl) ?_
      refine jr_aload rfl rfl ?_
      refine jr_getI rfl rfl ?_
      refine jr_dup2 rfl ?_
      refine jr_iald (len := 2) rfl rfl xb (by omega) ?_
      refine jr_iload rfl rfl ?_
      refine jr_if_eq rfl (fun _ => ?_) (fun z => absurd (by decide) z)
      refine jr_ic rfl ?_
      refine jr_iadd rfl ?_
      refine jr_iast (len := 2) rfl rfl xb (by omega) ?_
      refine jr_aload rfl rfl ?_
      refine jr_dup_r rfl ?_
      refine jr_getI rfl rfl ?_
      refine jr_iload rfl rfl ?_
      refine jr_if_eq rfl (fun _ => ?_) (fun z => absurd (by decide) z)
      refine jr_ic rfl ?_
      refine jr_iadd rfl ?_
      refine jr_putI rfl rfl ?_
      refine jr_iload rfl rfl ?_
      refine jr_if_ne rfl (fun z => absurd (show nI (jT_wh (jT_K B sz t)) = 0 by rw [hwh]; rfl) z) (fun _ => ?_)
      refine jr_aload rfl rfl ?_
      refine jr_getI rfl rfl ?_
      refine jr_goto rfl ?_
      refine jr_ist6 rfl rfl ?_
      refine jr_aload rfl rfl ?_
      refine jr_cv0 (mc' := 0) (ms' := 0) rfl jm_MD_goOn_n jm_MD_goOn_f rfl rfl rfl rfl rfl rfl rfl (Nat.zero_le _) (Nat.zero_le _) ?_
      refine eM_goOn (B := B) (sz := sz) (t := t + 1) xt.1 xt.2.1 xt.2.2.1 xm.2.1 (fun h1 g1 m1 => ?_)
      refine jr_iload rfl rfl ?_
      refine jr_if_ne rfl (fun z => absurd (by decide) z) (fun _ => ?_)
      refine jr_iload rfl rfl ?_
      refine jr_if_eq rfl (fun _ => ?_) (fun z => absurd (if_neg (by omega)) z)
      refine jr_aload rfl rfl ?_
      refine jr_iload rfl rfl ?_
      refine jr_if_ne rfl (fun z => absurd (show nI (jT_wh (jT_K B sz t)) = 0 by rw [hwh]; rfl) z) (fun _ => ?_)
      refine jr_ic rfl ?_
      refine jr_goto rfl ?_
      refine jr_iload rfl rfl ?_
      refine jr_cv2 (mc' := 0) (ms' := 0) rfl jm_MD_emit_n jm_MD_emit_f rfl rfl rfl rfl rfl rfl rfl (Nat.zero_le _) (Nat.zero_le _) ?_
      show jx_W (jm_MD_emit, _, _, _, _, _, _) _ 0 0 0 [some _, some _, some _] [] _
      refine jr_aload rfl rfl ?_
      refine jr_getR rfl rfl rfl rfl (Or.inl rfl) ?_
      refine jr_aload rfl rfl ?_
      refine jr_getI rfl rfl ?_
      refine jr_iload rfl rfl ?_
      refine jr_iast (len := 1240) rfl rfl ((g1.2.2.2 45 (by decide)).trans xc) (by omega) ?_
      refine jr_aload rfl rfl ?_
      refine jr_getR rfl rfl rfl rfl (Or.inl rfl) ?_
      refine jr_aload rfl rfl ?_
      refine jr_getI rfl rfl ?_
      refine jr_iload rfl rfl ?_
      refine jr_iast (len := 1240) rfl rfl ((g1.2.2.2 45 (by decide)).trans xc) (by omega) ?_
      refine jr_aload rfl rfl ?_
      refine jr_dup_r rfl ?_
      refine jr_getI rfl rfl ?_
      refine jr_ic rfl ?_
      refine jr_iadd rfl ?_
      refine jr_putI rfl rfl ?_
      refine jr_vret rfl rfl (Nat.zero_le _) (Nat.zero_le _) ?_
      refine jr_ic rfl ?_
      refine jr_zret rfl rfl rfl (Nat.zero_le _) (Nat.zero_le _) ?_
      have e45 : jh_I h1 11 0 45 = nI (620 * β + c) := (g1.2.2.2 45 (by decide)).trans xc
      refine k _ ⟨?_, m1, ?_, ?_, ?_, ?_, ?_, ?_, ?_, ?_, ?_, ?_⟩ ?_
      · exact ⟨(g1.2.2.2 3 (by decide)).trans xt.1, hsz, (congrArg (fun z => jT_c z sz) (g1.1 65 0 (by decide))).trans xt.2.2.1, (g1.2.2.2 5 (by decide)).trans xt.2.2.2⟩
      · exact (g1.2.2.2 4 (by decide)).trans xg
      · exact (g1.2.2.2 44 (by decide)).trans xb
      · refine (congrFun (g1.1 69 0 (by decide)) β).trans ?_
        show upd (jh_I h 69 0) β (jh_I h 69 0 β + 1) β = _
        rw [jg_us, xu, jn_S]
      · refine (g1.2.2.2 48 (by decide)).trans ?_
        show upd (jh_I h 11 0) 48 (jh_I h 11 0 48 + 1) 48 = _
        rw [jg_us, xv, jn_S]
      · show upd (jh_I h1 11 0) 45 (jh_I h1 11 0 45 + 1) 45 = _
        rw [jg_us, e45, jn_S]
        rfl
      · show upd (jh_I h1 93 0) (620 * β + c) _ = _
        rw [g1.1 93 0 (by decide)]
        show upd (jh_I h 93 0) (620 * β + c) _ = _
        rw [xC]
      · show upd (jh_I h1 94 0) (620 * β + c) _ = _
        rw [g1.1 94 0 (by decide)]
        show upd (jh_I h 94 0) (620 * β + c) _ = _
        rw [xN]
        exact congrArg (upd N (620 * β + c)) (xm.2.2.2.1 hK)
      · exact (g1.2.2.2 47 (by decide)).trans xl
      · show jp_ok (jh_I h1 95 0) (jh_I h1 96 0) _
        rw [g1.1 95 0 (by decide), g1.1 96 0 (by decide)]
        exact xP
      · exact (g1.2.2.2 46 (by decide)).trans xi
      · refine ⟨fun a b z1 z2 z3 z4 z5 z6 => ?_, fun a b z1 => g1.2.1 a b z1, g1.2.2.1, fun f hf => ?_, fun q hq => ?_⟩
        · refine (if_neg (fun y => z1 y.1)).trans ((if_neg (fun y => z4 y.1)).trans ((if_neg (fun y => z3 y.1)).trans ?_))
          refine (g1.1 a b z1).trans ?_
          exact (if_neg (fun y => z1 y.1)).trans (if_neg (fun y => z2 y.1))
        · refine (jg_un (by omega)).trans ?_
          refine (g1.2.2.2 f (by omega)).trans ?_
          exact jg_un (by omega)
        · refine (congrFun (g1.1 69 0 (by decide)) q).trans ?_
          exact jg_un hq

set_option maxHeartbeats 800000 in
set_option maxRecDepth 100000 in
theorem eM_unit_b {d : Nat} {h : jx_H} {Q : Option jx_V → jx_H → Prop} {B : Nat → Int32} {sz β t u v c : Nat} {C N : Nat → Int32} {P : List (Nat × Int32)} {i w : Nat} {s : Int32}  (hx : jX h B sz β t u v c C N ((w, s) :: P) i) (hβ : β < 2) (hP : P.length < 60) (hK : jT_K B sz t = 40) (hwh : jT_wh (jT_K B sz t) = 0) (hi : i < 7) (hu : u < 90) (hv : v < 30) (k : ∀ h' : jx_H, jX h' B sz β (t + 1) (u + 1) (v + 1) c C N ((7, 126) :: (w, s) :: P) (i + 1) → jX_F β h h' → Q (some (jv_i 1)) h')  : jx_Ev jm_MD_unit (d + 6) 0 0 false 1 [jv_r 11 0] h Q := by
  show jx_W (jm_MD_unit, d + 6, 0, 0, false, 1, _) Q 0 0 0 [some (jv_r 11 0), none, none, none, none, none, none] [] _
  obtain ⟨xt, xm, xg, xb, xu, xv, xc, xC, xN, xl, xP, xi⟩ := hx
  have xl2 : jh_I h 11 0 47 = nI (P.length + 1) := xl
  have hp := @jT_p_le B sz t
  have hsz := xt.2.1
  have hK2 : jT_k B sz (jT_p B sz t) = 40 := hK
  refine jr_aload rfl rfl ?_
  refine jr_getR rfl rfl rfl rfl (Or.inl rfl) ?_
  refine jr_aload rfl rfl ?_
  refine jr_getI rfl rfl ?_
  refine jr_ic rfl ?_
  refine jr_isub rfl ?_
  refine jr_iald (len := 90) rfl rfl (jn_sub xl2 (show _ = nI 1 from rfl) (by omega)) (by omega) ?_
  rw [show jh_I h 95 0 (P.length + 1 - 1) = nI w from xP.1]
  refine jr_ic rfl ?_
  refine jr_icmp_le rfl (fun c8 => ?_) (fun c8 => ?_)
  · refine jr_ic rfl ?_
    refine jr_goto rfl ?_
    refine jr_ist1 rfl rfl ?_
    refine jr_iload rfl rfl ?_
    refine jr_if_eq rfl (fun z => absurd z (by decide)) (fun _ => ?_)
    refine jr_aload rfl rfl ?_
    refine jr_lc rfl ?_
    refine jr_cv1 (mc' := 0) (ms' := 0) rfl jm_MD_isWord_n jm_MD_isWord_f rfl rfl rfl rfl rfl rfl rfl (Nat.zero_le _) (Nat.zero_le _) ?_
    refine eM_isWord xm (i := 28) (by decide) jT_W28 ?_
    refine jr_if_eq rfl (fun _ => ?_) (fun z => absurd (if_neg (by omega)) z)
    refine jr_ic rfl ?_
    refine jr_ist2 rfl rfl ?_
    refine jr_aload rfl rfl ?_
    refine jr_ic rfl ?_
    refine jr_cv1 (mc' := 0) (ms' := 0) rfl jm_MD_isSignHere_n jm_MD_isSignHere_f rfl rfl rfl rfl rfl rfl rfl (Nat.zero_le _) (Nat.zero_le _) ?_
    refine eM_isSignHere (s := 40) xt xm (by decide) ?_
    refine jr_ist3 rfl rfl ?_
    refine jr_aload rfl rfl ?_
    refine jr_cv0 (mc' := 0) (ms' := 0) rfl jm_MD_wordHere_n jm_MD_wordHere_f rfl rfl rfl rfl rfl rfl rfl (Nat.zero_le _) (Nat.zero_le _) ?_
    refine eM_wordHere xm ?_
    refine jr_ist4 rfl rfl ?_
    refine jr_aload rfl rfl ?_
    refine jr_getR rfl rfl rfl rfl (Or.inl rfl) ?_
    refine jr_aload rfl rfl ?_
    refine jr_getI rfl rfl ?_
    refine jr_iald (len := 2) rfl rfl xb (by omega) ?_
    rw [xu]
    refine jr_ic rfl ?_
    refine jr_icmp_eq rfl (fun z => absurd z (fun z => by have := jn_eq (show nI u = nI 90 from z) (by omega) (by decide); omega)) (fun _ => ?_)
    refine jr_aload rfl rfl ?_
    refine jr_getI rfl rfl ?_
    rw [xv]
    refine jr_ic rfl ?_
    refine jr_icmp_ne rfl (fun _ => ?_) (fun z => absurd z (fun z => by have := jn_eq (show nI v = nI 30 from z) (by omega) (by decide); omega))
    refine jr_ic rfl ?_
    refine jr_ist5 rfl rfl ?_
    refine jr_iload rfl rfl ?_
    refine jr_if_ne rfl (fun z => absurd (by decide) z) (fun _ => ?_)
    refine jr_iload rfl rfl ?_
    refine jr_if_ne rfl (fun z => absurd (show nI (jT_wh (jT_K B sz t)) = 0 by rw [hwh]; rfl) z) (fun _ => ?_)
    refine jr_aload rfl rfl ?_
    refine jr_getI rfl rfl ?_
    rw [xm.2.2.1]
    refine jr_ic rfl ?_
    refine jr_icmp_eq rfl (fun z => absurd z (fun z => by have := jT_mt4.mp z; omega)) (fun _ => ?_)
    refine jr_iload rfl rfl ?_
    refine jr_if_eq rfl (fun z => absurd z (by rw [if_pos hK]; decide)) (fun _ => ?_)
    refine jr_iload rfl rfl ?_
    refine jr_if_ne rfl (fun z => absurd (by decide) z) (fun _ => ?_)
    refine jr_iload rfl rfl ?_
    refine jr_if_ne rfl (fun z => absurd (by decide) z) (fun _ => ?_)
    refine jr_iload rfl rfl ?_
    refine jr_if_eq rfl (fun z => absurd z (by rw [if_pos hK]; decide)) (fun _ => ?_)
    refine jr_aload rfl rfl ?_
    refine jr_getI rfl rfl ?_
    refine jr_ic rfl ?_
    refine jr_icmp_ne rfl (fun _ => ?_) (fun z => absurd z (fun z => by have := jn_eq ((show jh_I h 11 0 46 = nI i from xi).symm.trans (show jh_I h 11 0 46 = nI 7 from z)) (by omega) (by decide); omega))
    refine jr_aload rfl rfl ?_
    refine jr_cv0 (mc' := 0) (ms' := 0) rfl jm_MD_isGood_n jm_MD_isGood_f rfl rfl rfl rfl rfl rfl rfl (Nat.zero_le _) (Nat.zero_le _) ?_
    show jx_W (jm_MD_isGood, _, _, _, _, _, _) _ 0 0 0 [some _] [] _
    refine jr_aload rfl rfl ?_
    refine jr_getI rfl rfl ?_
    refine jr_if_ne rfl (fun z => absurd xg z) (fun _ => ?_)
    refine jr_ic rfl ?_
    refine jr_goto rfl ?_
    refine jr_zret rfl rfl rfl (Nat.zero_le _) (Nat.zero_le _) ?_
    refine jr_if_ne rfl (fun _ => ?_) (fun z => absurd z (by decide))
    refine jr_aload rfl rfl ?_
    refine jr_getR rfl rfl rfl rfl (Or.inl rfl) ?_
    refine jr_aload rfl rfl ?_
    refine jr_getI rfl rfl ?_
    refine jr_dup2 rfl ?_
    refine jr_iald (len := 2) rfl rfl xb (by omega) ?_
    refine jr_iload rfl rfl ?_
    refine jr_if_eq rfl (fun _ => ?_) (fun z => absurd (by decide) z)
    refine jr_ic rfl ?_
    refine jr_iadd rfl ?_
    refine jr_iast (len := 2) rfl rfl xb (by omega) ?_
    refine jr_aload rfl rfl ?_
    refine jr_dup_r rfl ?_
    refine jr_getI rfl rfl ?_
    refine jr_iload rfl rfl ?_
    refine jr_if_eq rfl (fun _ => ?_) (fun z => absurd (by decide) z)
    refine jr_ic rfl ?_
    refine jr_iadd rfl ?_
    refine jr_putI rfl rfl ?_
    refine jr_iload rfl rfl ?_
    refine jr_if_ne rfl (fun z => absurd (show nI (jT_wh (jT_K B sz t)) = 0 by rw [hwh]; rfl) z) (fun _ => ?_)
    refine jr_aload rfl rfl ?_
    refine jr_getI rfl rfl ?_
    refine jr_goto rfl ?_
    refine jr_ist6 rfl rfl ?_
    refine jr_aload rfl rfl ?_
    refine jr_cv0 (mc' := 0) (ms' := 0) rfl jm_MD_goOn_n jm_MD_goOn_f rfl rfl rfl rfl rfl rfl rfl (Nat.zero_le _) (Nat.zero_le _) ?_
    refine eM_goOn (B := B) (sz := sz) (t := t + 1) xt.1 xt.2.1 xt.2.2.1 xm.2.1 (fun h1 g1 m1 => ?_)
    refine jr_iload rfl rfl ?_
    refine jr_if_ne rfl (fun z => absurd (by decide) z) (fun _ => ?_)
    refine jr_iload rfl rfl ?_
    refine jr_if_eq rfl (fun z => absurd z (by rw [if_pos hK]; decide)) (fun _ => ?_)
    refine jr_aload rfl rfl ?_
    refine jr_iload rfl rfl ?_
    refine jr_if_eq rfl (fun _ => ?_) (fun z => absurd (by decide) z)
    refine jr_ic rfl ?_
    refine jr_ic rfl ?_
    refine jr_cv2 (mc' := 0) (ms' := 0) rfl jm_MD_pushE_n jm_MD_pushE_f rfl rfl rfl rfl rfl rfl rfl (Nat.zero_le _) (Nat.zero_le _) ?_
    show jx_W (jm_MD_pushE, _, _, _, _, _, _) _ 0 0 0 [some _, some _, some _] [] _
    refine jr_aload rfl rfl ?_
    refine jr_getR rfl rfl rfl rfl (Or.inl rfl) ?_
    refine jr_aload rfl rfl ?_
    refine jr_getI rfl rfl ?_
    refine jr_iload rfl rfl ?_
    refine jr_iast (len := 90) rfl rfl ((g1.2.2.2 47 (by decide)).trans xl2) (by omega) ?_
    refine jr_aload rfl rfl ?_
    refine jr_getR rfl rfl rfl rfl (Or.inl rfl) ?_
    refine jr_aload rfl rfl ?_
    refine jr_getI rfl rfl ?_
    refine jr_iload rfl rfl ?_
    refine jr_iast (len := 90) rfl rfl ((g1.2.2.2 47 (by decide)).trans xl2) (by omega) ?_
    refine jr_aload rfl rfl ?_
    refine jr_dup_r rfl ?_
    refine jr_getI rfl rfl ?_
    refine jr_ic rfl ?_
    refine jr_iadd rfl ?_
    refine jr_putI rfl rfl ?_
    refine jr_vret rfl rfl (Nat.zero_le _) (Nat.zero_le _) ?_
    refine jr_aload rfl rfl ?_
    refine jr_dup_r rfl ?_
    refine jr_getI rfl rfl ?_
    refine jr_ic rfl ?_
    refine jr_iadd rfl ?_
    refine jr_putI rfl rfl ?_
    refine jr_ic rfl ?_
    refine jr_zret rfl rfl rfl (Nat.zero_le _) (Nat.zero_le _) ?_
    have e47 : jh_I h1 11 0 47 = nI (P.length + 1) := (g1.2.2.2 47 (by decide)).trans xl2
    have e46 : jh_I h1 11 0 46 = nI i := (g1.2.2.2 46 (by decide)).trans xi
    refine k _ ⟨?_, m1, ?_, ?_, ?_, ?_, ?_, ?_, ?_, ?_, ?_, ?_⟩ ?_
    · exact ⟨(g1.2.2.2 3 (by decide)).trans xt.1, hsz, (congrArg (fun z => jT_c z sz) (g1.1 65 0 (by decide))).trans xt.2.2.1, (g1.2.2.2 5 (by decide)).trans xt.2.2.2⟩
    · exact (g1.2.2.2 4 (by decide)).trans xg
    · exact (g1.2.2.2 44 (by decide)).trans xb
    · refine (congrFun (g1.1 69 0 (by decide)) β).trans ?_
      show upd (jh_I h 69 0) β (jh_I h 69 0 β + 1) β = _
      rw [jg_us, xu, jn_S]
    · refine (g1.2.2.2 48 (by decide)).trans ?_
      show upd (jh_I h 11 0) 48 (jh_I h 11 0 48 + 1) 48 = _
      rw [jg_us, xv, jn_S]
    · exact (g1.2.2.2 45 (by decide)).trans xc
    · exact (g1.1 93 0 (by decide)).trans xC
    · exact (g1.1 94 0 (by decide)).trans xN
    · show upd (upd (jh_I h1 11 0) 47 (jh_I h1 11 0 47 + 1)) 46 (jh_I h1 11 0 46 + 1) 47 = _
      rw [jg_un (by decide), jg_us, e47, jn_S]
      rfl
    · have e95 := g1.1 95 0 (by decide)
      have e96 := g1.1 96 0 (by decide)
      refine ⟨?_, by decide, ?_, jp_ok_e xP (fun q hq => ?_)⟩
      · exact jg_us _ _ _
      · exact jg_us _ _ _
      · constructor
        · refine (jg_un (Nat.ne_of_lt hq)).trans (congrFun e95 q)
        · refine (jg_un (Nat.ne_of_lt hq)).trans (congrFun e96 q)
    · show upd (upd (jh_I h1 11 0) 47 (jh_I h1 11 0 47 + 1)) 46 (jh_I h1 11 0 46 + 1) 46 = _
      rw [jg_us, e46, jn_S]
    · refine ⟨fun a b z1 z2 z3 z4 z5 z6 => ?_, fun a b z1 => g1.2.1 a b z1, g1.2.2.1, fun f hf => ?_, fun q hq => ?_⟩
      · refine (if_neg (fun y => z1 y.1)).trans ((if_neg (fun y => z1 y.1)).trans ((if_neg (fun y => z6 y.1)).trans ((if_neg (fun y => z5 y.1)).trans ?_)))
        refine (g1.1 a b z1).trans ?_
        exact (if_neg (fun y => z1 y.1)).trans (if_neg (fun y => z2 y.1))
      · refine (jg_un (by omega)).trans ((jg_un (by omega)).trans ?_)
        refine (g1.2.2.2 f (by omega)).trans ?_
        exact jg_un (by omega)
      · refine (congrFun (g1.1 69 0 (by decide)) q).trans ?_
        exact jg_un hq
  · refine jr_aload rfl rfl ?_
    refine jr_getR rfl rfl rfl rfl (Or.inl rfl) ?_
    refine jr_aload rfl rfl ?_
    refine jr_getI rfl rfl ?_
    refine jr_ic rfl ?_
    refine jr_isub rfl ?_
    refine jr_iald (len := 90) rfl rfl (jn_sub xl2 (show _ = nI 1 from rfl) (by omega)) (by omega) ?_
    rw [show jh_I h 95 0 (P.length + 1 - 1) = nI w from xP.1]
    refine jr_ic rfl ?_
    refine jr_icmp_lt rfl (fun c17 => ?_) (fun c17 => ?_)
    · refine jr_ic rfl ?_
      refine jr_ist1 rfl rfl ?_
      refine jr_iload rfl rfl ?_
      refine jr_if_eq rfl (fun _ => ?_) (fun z => absurd (by decide) z)
      refine jr_ic rfl ?_
      refine jr_ist2 rfl rfl ?_
      refine jr_aload rfl rfl ?_
      refine jr_ic rfl ?_
      refine jr_cv1 (mc' := 0) (ms' := 0) rfl jm_MD_isSignHere_n jm_MD_isSignHere_f rfl rfl rfl rfl rfl rfl rfl (Nat.zero_le _) (Nat.zero_le _) ?_
      refine eM_isSignHere (s := 40) xt xm (by decide) ?_
      refine jr_ist3 rfl rfl ?_
      refine jr_aload rfl rfl ?_
      refine jr_cv0 (mc' := 0) (ms' := 0) rfl jm_MD_wordHere_n jm_MD_wordHere_f rfl rfl rfl rfl rfl rfl rfl (Nat.zero_le _) (Nat.zero_le _) ?_
      refine eM_wordHere xm ?_
      refine jr_ist4 rfl rfl ?_
      refine jr_aload rfl rfl ?_
      refine jr_getR rfl rfl rfl rfl (Or.inl rfl) ?_
      refine jr_aload rfl rfl ?_
      refine jr_getI rfl rfl ?_
      refine jr_iald (len := 2) rfl rfl xb (by omega) ?_
      rw [xu]
      refine jr_ic rfl ?_
      refine jr_icmp_eq rfl (fun z => absurd z (fun z => by have := jn_eq (show nI u = nI 90 from z) (by omega) (by decide); omega)) (fun _ => ?_)
      refine jr_aload rfl rfl ?_
      refine jr_getI rfl rfl ?_
      rw [xv]
      refine jr_ic rfl ?_
      refine jr_icmp_ne rfl (fun _ => ?_) (fun z => absurd z (fun z => by have := jn_eq (show nI v = nI 30 from z) (by omega) (by decide); omega))
      refine jr_ic rfl ?_
      refine jr_ist5 rfl rfl ?_
      refine jr_iload rfl rfl ?_
      refine jr_if_ne rfl (fun z => absurd (by decide) z) (fun _ => ?_)
      refine jr_iload rfl rfl ?_
      refine jr_if_ne rfl (fun z => absurd (show nI (jT_wh (jT_K B sz t)) = 0 by rw [hwh]; rfl) z) (fun _ => ?_)
      refine jr_aload rfl rfl ?_
      refine jr_getI rfl rfl ?_
      rw [xm.2.2.1]
      refine jr_ic rfl ?_
      refine jr_icmp_eq rfl (fun z => absurd z (fun z => by have := jT_mt4.mp z; omega)) (fun _ => ?_)
      refine jr_iload rfl rfl ?_
      refine jr_if_eq rfl (fun z => absurd z (by rw [if_pos hK]; decide)) (fun _ => ?_)
      refine jr_iload rfl rfl ?_
      refine jr_if_ne rfl (fun z => absurd (by decide) z) (fun _ => ?_)
      refine jr_iload rfl rfl ?_
      refine jr_if_ne rfl (fun z => absurd (by decide) z) (fun _ => ?_)
      refine jr_iload rfl rfl ?_
      refine jr_if_eq rfl (fun z => absurd z (by rw [if_pos hK]; decide)) (fun _ => ?_)
      refine jr_aload rfl rfl ?_
      refine jr_getI rfl rfl ?_
      refine jr_ic rfl ?_
      refine jr_icmp_ne rfl (fun _ => ?_) (fun z => absurd z (fun z => by have := jn_eq ((show jh_I h 11 0 46 = nI i from xi).symm.trans (show jh_I h 11 0 46 = nI 7 from z)) (by omega) (by decide); omega))
      refine jr_aload rfl rfl ?_
      refine jr_cv0 (mc' := 0) (ms' := 0) rfl jm_MD_isGood_n jm_MD_isGood_f rfl rfl rfl rfl rfl rfl rfl (Nat.zero_le _) (Nat.zero_le _) ?_
      show jx_W (jm_MD_isGood, _, _, _, _, _, _) _ 0 0 0 [some _] [] _
      refine jr_aload rfl rfl ?_
      refine jr_getI rfl rfl ?_
      refine jr_if_ne rfl (fun z => absurd xg z) (fun _ => ?_)
      refine jr_ic rfl ?_
      refine jr_goto rfl ?_
      refine jr_zret rfl rfl rfl (Nat.zero_le _) (Nat.zero_le _) ?_
      refine jr_if_ne rfl (fun _ => ?_) (fun z => absurd z (by decide))
      refine jr_aload rfl rfl ?_
      refine jr_getR rfl rfl rfl rfl (Or.inl rfl) ?_
      refine jr_aload rfl rfl ?_
      refine jr_getI rfl rfl ?_
      refine jr_dup2 rfl ?_
      refine jr_iald (len := 2) rfl rfl xb (by omega) ?_
      refine jr_iload rfl rfl ?_
      refine jr_if_eq rfl (fun _ => ?_) (fun z => absurd (by decide) z)
      refine jr_ic rfl ?_
      refine jr_iadd rfl ?_
      refine jr_iast (len := 2) rfl rfl xb (by omega) ?_
      refine jr_aload rfl rfl ?_
      refine jr_dup_r rfl ?_
      refine jr_getI rfl rfl ?_
      refine jr_iload rfl rfl ?_
      refine jr_if_eq rfl (fun _ => ?_) (fun z => absurd (by decide) z)
      refine jr_ic rfl ?_
      refine jr_iadd rfl ?_
      refine jr_putI rfl rfl ?_
      refine jr_iload rfl rfl ?_
      refine jr_if_ne rfl (fun z => absurd (show nI (jT_wh (jT_K B sz t)) = 0 by rw [hwh]; rfl) z) (fun _ => ?_)
      refine jr_aload rfl rfl ?_
      refine jr_getI rfl rfl ?_
      refine jr_goto rfl ?_
      refine jr_ist6 rfl rfl ?_
      refine jr_aload rfl rfl ?_
      refine jr_cv0 (mc' := 0) (ms' := 0) rfl jm_MD_goOn_n jm_MD_goOn_f rfl rfl rfl rfl rfl rfl rfl (Nat.zero_le _) (Nat.zero_le _) ?_
      refine eM_goOn (B := B) (sz := sz) (t := t + 1) xt.1 xt.2.1 xt.2.2.1 xm.2.1 (fun h1 g1 m1 => ?_)
      refine jr_iload rfl rfl ?_
      refine jr_if_ne rfl (fun z => absurd (by decide) z) (fun _ => ?_)
      refine jr_iload rfl rfl ?_
      refine jr_if_eq rfl (fun z => absurd z (by rw [if_pos hK]; decide)) (fun _ => ?_)
      refine jr_aload rfl rfl ?_
      refine jr_iload rfl rfl ?_
      refine jr_if_eq rfl (fun _ => ?_) (fun z => absurd (by decide) z)
      refine jr_ic rfl ?_
      refine jr_ic rfl ?_
      refine jr_cv2 (mc' := 0) (ms' := 0) rfl jm_MD_pushE_n jm_MD_pushE_f rfl rfl rfl rfl rfl rfl rfl (Nat.zero_le _) (Nat.zero_le _) ?_
      show jx_W (jm_MD_pushE, _, _, _, _, _, _) _ 0 0 0 [some _, some _, some _] [] _
      refine jr_aload rfl rfl ?_
      refine jr_getR rfl rfl rfl rfl (Or.inl rfl) ?_
      refine jr_aload rfl rfl ?_
      refine jr_getI rfl rfl ?_
      refine jr_iload rfl rfl ?_
      refine jr_iast (len := 90) rfl rfl ((g1.2.2.2 47 (by decide)).trans xl2) (by omega) ?_
      refine jr_aload rfl rfl ?_
      refine jr_getR rfl rfl rfl rfl (Or.inl rfl) ?_
      refine jr_aload rfl rfl ?_
      refine jr_getI rfl rfl ?_
      refine jr_iload rfl rfl ?_
      refine jr_iast (len := 90) rfl rfl ((g1.2.2.2 47 (by decide)).trans xl2) (by omega) ?_
      refine jr_aload rfl rfl ?_
      refine jr_dup_r rfl ?_
      refine jr_getI rfl rfl ?_
      refine jr_ic rfl ?_
      refine jr_iadd rfl ?_
      refine jr_putI rfl rfl ?_
      refine jr_vret rfl rfl (Nat.zero_le _) (Nat.zero_le _) ?_
      refine jr_aload rfl rfl ?_
      refine jr_dup_r rfl ?_
      refine jr_getI rfl rfl ?_
      refine jr_ic rfl ?_
      refine jr_iadd rfl ?_
      refine jr_putI rfl rfl ?_
      refine jr_ic rfl ?_
      refine jr_zret rfl rfl rfl (Nat.zero_le _) (Nat.zero_le _) ?_
      have e47 : jh_I h1 11 0 47 = nI (P.length + 1) := (g1.2.2.2 47 (by decide)).trans xl2
      have e46 : jh_I h1 11 0 46 = nI i := (g1.2.2.2 46 (by decide)).trans xi
      refine k _ ⟨?_, m1, ?_, ?_, ?_, ?_, ?_, ?_, ?_, ?_, ?_, ?_⟩ ?_
      · exact ⟨(g1.2.2.2 3 (by decide)).trans xt.1, hsz, (congrArg (fun z => jT_c z sz) (g1.1 65 0 (by decide))).trans xt.2.2.1, (g1.2.2.2 5 (by decide)).trans xt.2.2.2⟩
      · exact (g1.2.2.2 4 (by decide)).trans xg
      · exact (g1.2.2.2 44 (by decide)).trans xb
      · refine (congrFun (g1.1 69 0 (by decide)) β).trans ?_
        show upd (jh_I h 69 0) β (jh_I h 69 0 β + 1) β = _
        rw [jg_us, xu, jn_S]
      · refine (g1.2.2.2 48 (by decide)).trans ?_
        show upd (jh_I h 11 0) 48 (jh_I h 11 0 48 + 1) 48 = _
        rw [jg_us, xv, jn_S]
      · exact (g1.2.2.2 45 (by decide)).trans xc
      · exact (g1.1 93 0 (by decide)).trans xC
      · exact (g1.1 94 0 (by decide)).trans xN
      · show upd (upd (jh_I h1 11 0) 47 (jh_I h1 11 0 47 + 1)) 46 (jh_I h1 11 0 46 + 1) 47 = _
        rw [jg_un (by decide), jg_us, e47, jn_S]
        rfl
      · have e95 := g1.1 95 0 (by decide)
        have e96 := g1.1 96 0 (by decide)
        refine ⟨?_, by decide, ?_, jp_ok_e xP (fun q hq => ?_)⟩
        · exact jg_us _ _ _
        · exact jg_us _ _ _
        · constructor
          · refine (jg_un (Nat.ne_of_lt hq)).trans (congrFun e95 q)
          · refine (jg_un (Nat.ne_of_lt hq)).trans (congrFun e96 q)
      · show upd (upd (jh_I h1 11 0) 47 (jh_I h1 11 0 47 + 1)) 46 (jh_I h1 11 0 46 + 1) 46 = _
        rw [jg_us, e46, jn_S]
      · refine ⟨fun a b z1 z2 z3 z4 z5 z6 => ?_, fun a b z1 => g1.2.1 a b z1, g1.2.2.1, fun f hf => ?_, fun q hq => ?_⟩
        · refine (if_neg (fun y => z1 y.1)).trans ((if_neg (fun y => z1 y.1)).trans ((if_neg (fun y => z6 y.1)).trans ((if_neg (fun y => z5 y.1)).trans ?_)))
          refine (g1.1 a b z1).trans ?_
          exact (if_neg (fun y => z1 y.1)).trans (if_neg (fun y => z2 y.1))
        · refine (jg_un (by omega)).trans ((jg_un (by omega)).trans ?_)
          refine (g1.2.2.2 f (by omega)).trans ?_
          exact jg_un (by omega)
        · refine (congrFun (g1.1 69 0 (by decide)) q).trans ?_
          exact jg_un hq
    · refine jr_ic rfl ?_
      refine jr_goto rfl ?_
      refine jr_ist1 rfl rfl ?_
      refine jr_iload rfl rfl ?_
      refine jr_if_eq rfl (fun z => absurd z (by decide)) (fun _ => ?_)
      refine jr_aload rfl rfl ?_
      refine jr_lc rfl ?_
      refine jr_cv1 (mc' := 0) (ms' := 0) rfl jm_MD_isWord_n jm_MD_isWord_f rfl rfl rfl rfl rfl rfl rfl (Nat.zero_le _) (Nat.zero_le _) ?_
      refine eM_isWord xm (i := 28) (by decide) jT_W28 ?_
      refine jr_if_eq rfl (fun _ => ?_) (fun z => absurd (if_neg (by omega)) z)
      refine jr_ic rfl ?_
      refine jr_ist2 rfl rfl ?_
      refine jr_aload rfl rfl ?_
      refine jr_ic rfl ?_
      refine jr_cv1 (mc' := 0) (ms' := 0) rfl jm_MD_isSignHere_n jm_MD_isSignHere_f rfl rfl rfl rfl rfl rfl rfl (Nat.zero_le _) (Nat.zero_le _) ?_
      refine eM_isSignHere (s := 40) xt xm (by decide) ?_
      refine jr_ist3 rfl rfl ?_
      refine jr_aload rfl rfl ?_
      refine jr_cv0 (mc' := 0) (ms' := 0) rfl jm_MD_wordHere_n jm_MD_wordHere_f rfl rfl rfl rfl rfl rfl rfl (Nat.zero_le _) (Nat.zero_le _) ?_
      refine eM_wordHere xm ?_
      refine jr_ist4 rfl rfl ?_
      refine jr_aload rfl rfl ?_
      refine jr_getR rfl rfl rfl rfl (Or.inl rfl) ?_
      refine jr_aload rfl rfl ?_
      refine jr_getI rfl rfl ?_
      refine jr_iald (len := 2) rfl rfl xb (by omega) ?_
      rw [xu]
      refine jr_ic rfl ?_
      refine jr_icmp_eq rfl (fun z => absurd z (fun z => by have := jn_eq (show nI u = nI 90 from z) (by omega) (by decide); omega)) (fun _ => ?_)
      refine jr_aload rfl rfl ?_
      refine jr_getI rfl rfl ?_
      rw [xv]
      refine jr_ic rfl ?_
      refine jr_icmp_ne rfl (fun _ => ?_) (fun z => absurd z (fun z => by have := jn_eq (show nI v = nI 30 from z) (by omega) (by decide); omega))
      refine jr_ic rfl ?_
      refine jr_ist5 rfl rfl ?_
      refine jr_iload rfl rfl ?_
      refine jr_if_ne rfl (fun z => absurd (by decide) z) (fun _ => ?_)
      refine jr_iload rfl rfl ?_
      refine jr_if_ne rfl (fun z => absurd (show nI (jT_wh (jT_K B sz t)) = 0 by rw [hwh]; rfl) z) (fun _ => ?_)
      refine jr_aload rfl rfl ?_
      refine jr_getI rfl rfl ?_
      rw [xm.2.2.1]
      refine jr_ic rfl ?_
      refine jr_icmp_eq rfl (fun z => absurd z (fun z => by have := jT_mt4.mp z; omega)) (fun _ => ?_)
      refine jr_iload rfl rfl ?_
      refine jr_if_eq rfl (fun z => absurd z (by rw [if_pos hK]; decide)) (fun _ => ?_)
      refine jr_iload rfl rfl ?_
      refine jr_if_ne rfl (fun z => absurd (by decide) z) (fun _ => ?_)
      refine jr_iload rfl rfl ?_
      refine jr_if_ne rfl (fun z => absurd (by decide) z) (fun _ => ?_)
      refine jr_iload rfl rfl ?_
      refine jr_if_eq rfl (fun z => absurd z (by rw [if_pos hK]; decide)) (fun _ => ?_)
      refine jr_aload rfl rfl ?_
      refine jr_getI rfl rfl ?_
      refine jr_ic rfl ?_
      refine jr_icmp_ne rfl (fun _ => ?_) (fun z => absurd z (fun z => by have := jn_eq ((show jh_I h 11 0 46 = nI i from xi).symm.trans (show jh_I h 11 0 46 = nI 7 from z)) (by omega) (by decide); omega))
      refine jr_aload rfl rfl ?_
      refine jr_cv0 (mc' := 0) (ms' := 0) rfl jm_MD_isGood_n jm_MD_isGood_f rfl rfl rfl rfl rfl rfl rfl (Nat.zero_le _) (Nat.zero_le _) ?_
      show jx_W (jm_MD_isGood, _, _, _, _, _, _) _ 0 0 0 [some _] [] _
      refine jr_aload rfl rfl ?_
      refine jr_getI rfl rfl ?_
      refine jr_if_ne rfl (fun z => absurd xg z) (fun _ => ?_)
      refine jr_ic rfl ?_
      refine jr_goto rfl ?_
      refine jr_zret rfl rfl rfl (Nat.zero_le _) (Nat.zero_le _) ?_
      refine jr_if_ne rfl (fun _ => ?_) (fun z => absurd z (by decide))
      refine jr_aload rfl rfl ?_
      refine jr_getR rfl rfl rfl rfl (Or.inl rfl) ?_
      refine jr_aload rfl rfl ?_
      refine jr_getI rfl rfl ?_
      refine jr_dup2 rfl ?_
      refine jr_iald (len := 2) rfl rfl xb (by omega) ?_
      refine jr_iload rfl rfl ?_
      refine jr_if_eq rfl (fun _ => ?_) (fun z => absurd (by decide) z)
      refine jr_ic rfl ?_
      refine jr_iadd rfl ?_
      refine jr_iast (len := 2) rfl rfl xb (by omega) ?_
      refine jr_aload rfl rfl ?_
      refine jr_dup_r rfl ?_
      refine jr_getI rfl rfl ?_
      refine jr_iload rfl rfl ?_
      refine jr_if_eq rfl (fun _ => ?_) (fun z => absurd (by decide) z)
      refine jr_ic rfl ?_
      refine jr_iadd rfl ?_
      refine jr_putI rfl rfl ?_
      refine jr_iload rfl rfl ?_
      refine jr_if_ne rfl (fun z => absurd (show nI (jT_wh (jT_K B sz t)) = 0 by rw [hwh]; rfl) z) (fun _ => ?_)
      refine jr_aload rfl rfl ?_
      refine jr_getI rfl rfl ?_
      refine jr_goto rfl ?_
      refine jr_ist6 rfl rfl ?_
      refine jr_aload rfl rfl ?_
      refine jr_cv0 (mc' := 0) (ms' := 0) rfl jm_MD_goOn_n jm_MD_goOn_f rfl rfl rfl rfl rfl rfl rfl (Nat.zero_le _) (Nat.zero_le _) ?_
      refine eM_goOn (B := B) (sz := sz) (t := t + 1) xt.1 xt.2.1 xt.2.2.1 xm.2.1 (fun h1 g1 m1 => ?_)
      refine jr_iload rfl rfl ?_
      refine jr_if_ne rfl (fun z => absurd (by decide) z) (fun _ => ?_)
      refine jr_iload rfl rfl ?_
      refine jr_if_eq rfl (fun z => absurd z (by rw [if_pos hK]; decide)) (fun _ => ?_)
      refine jr_aload rfl rfl ?_
      refine jr_iload rfl rfl ?_
      refine jr_if_eq rfl (fun _ => ?_) (fun z => absurd (by decide) z)
      refine jr_ic rfl ?_
      refine jr_ic rfl ?_
      refine jr_cv2 (mc' := 0) (ms' := 0) rfl jm_MD_pushE_n jm_MD_pushE_f rfl rfl rfl rfl rfl rfl rfl (Nat.zero_le _) (Nat.zero_le _) ?_
      show jx_W (jm_MD_pushE, _, _, _, _, _, _) _ 0 0 0 [some _, some _, some _] [] _
      refine jr_aload rfl rfl ?_
      refine jr_getR rfl rfl rfl rfl (Or.inl rfl) ?_
      refine jr_aload rfl rfl ?_
      refine jr_getI rfl rfl ?_
      refine jr_iload rfl rfl ?_
      refine jr_iast (len := 90) rfl rfl ((g1.2.2.2 47 (by decide)).trans xl2) (by omega) ?_
      refine jr_aload rfl rfl ?_
      refine jr_getR rfl rfl rfl rfl (Or.inl rfl) ?_
      refine jr_aload rfl rfl ?_
      refine jr_getI rfl rfl ?_
      refine jr_iload rfl rfl ?_
      refine jr_iast (len := 90) rfl rfl ((g1.2.2.2 47 (by decide)).trans xl2) (by omega) ?_
      refine jr_aload rfl rfl ?_
      refine jr_dup_r rfl ?_
      refine jr_getI rfl rfl ?_
      refine jr_ic rfl ?_
      refine jr_iadd rfl ?_
      refine jr_putI rfl rfl ?_
      refine jr_vret rfl rfl (Nat.zero_le _) (Nat.zero_le _) ?_
      refine jr_aload rfl rfl ?_
      refine jr_dup_r rfl ?_
      refine jr_getI rfl rfl ?_
      refine jr_ic rfl ?_
      refine jr_iadd rfl ?_
      refine jr_putI rfl rfl ?_
      refine jr_ic rfl ?_
      refine jr_zret rfl rfl rfl (Nat.zero_le _) (Nat.zero_le _) ?_
      have e47 : jh_I h1 11 0 47 = nI (P.length + 1) := (g1.2.2.2 47 (by decide)).trans xl2
      have e46 : jh_I h1 11 0 46 = nI i := (g1.2.2.2 46 (by decide)).trans xi
      refine k _ ⟨?_, m1, ?_, ?_, ?_, ?_, ?_, ?_, ?_, ?_, ?_, ?_⟩ ?_
      · exact ⟨(g1.2.2.2 3 (by decide)).trans xt.1, hsz, (congrArg (fun z => jT_c z sz) (g1.1 65 0 (by decide))).trans xt.2.2.1, (g1.2.2.2 5 (by decide)).trans xt.2.2.2⟩
      · exact (g1.2.2.2 4 (by decide)).trans xg
      · exact (g1.2.2.2 44 (by decide)).trans xb
      · refine (congrFun (g1.1 69 0 (by decide)) β).trans ?_
        show upd (jh_I h 69 0) β (jh_I h 69 0 β + 1) β = _
        rw [jg_us, xu, jn_S]
      · refine (g1.2.2.2 48 (by decide)).trans ?_
        show upd (jh_I h 11 0) 48 (jh_I h 11 0 48 + 1) 48 = _
        rw [jg_us, xv, jn_S]
      · exact (g1.2.2.2 45 (by decide)).trans xc
      · exact (g1.1 93 0 (by decide)).trans xC
      · exact (g1.1 94 0 (by decide)).trans xN
      · show upd (upd (jh_I h1 11 0) 47 (jh_I h1 11 0 47 + 1)) 46 (jh_I h1 11 0 46 + 1) 47 = _
        rw [jg_un (by decide), jg_us, e47, jn_S]
        rfl
      · have e95 := g1.1 95 0 (by decide)
        have e96 := g1.1 96 0 (by decide)
        refine ⟨?_, by decide, ?_, jp_ok_e xP (fun q hq => ?_)⟩
        · exact jg_us _ _ _
        · exact jg_us _ _ _
        · constructor
          · refine (jg_un (Nat.ne_of_lt hq)).trans (congrFun e95 q)
          · refine (jg_un (Nat.ne_of_lt hq)).trans (congrFun e96 q)
      · show upd (upd (jh_I h1 11 0) 47 (jh_I h1 11 0 47 + 1)) 46 (jh_I h1 11 0 46 + 1) 46 = _
        rw [jg_us, e46, jn_S]
      · refine ⟨fun a b z1 z2 z3 z4 z5 z6 => ?_, fun a b z1 => g1.2.1 a b z1, g1.2.2.1, fun f hf => ?_, fun q hq => ?_⟩
        · refine (if_neg (fun y => z1 y.1)).trans ((if_neg (fun y => z1 y.1)).trans ((if_neg (fun y => z6 y.1)).trans ((if_neg (fun y => z5 y.1)).trans ?_)))
          refine (g1.1 a b z1).trans ?_
          exact (if_neg (fun y => z1 y.1)).trans (if_neg (fun y => z2 y.1))
        · refine (jg_un (by omega)).trans ((jg_un (by omega)).trans ?_)
          refine (g1.2.2.2 f (by omega)).trans ?_
          exact jg_un (by omega)
        · refine (congrFun (g1.1 69 0 (by decide)) q).trans ?_
          exact jg_un hq

set_option maxHeartbeats 800000 in
set_option maxRecDepth 100000 in
theorem eM_unit_not {d : Nat} {h : jx_H} {Q : Option jx_V → jx_H → Prop} {B : Nat → Int32} {sz β t u v c : Nat} {C N : Nat → Int32} {P : List (Nat × Int32)} {i w : Nat} {s : Int32}  (hx : jX h B sz β t u v c C N ((w, s) :: P) i) (hβ : β < 2) (hP : P.length < 60) (hK : jT_K B sz t = 128) (hwh : jT_wh (jT_K B sz t) = 0) (hw : w ≤ 3 ∨ 7 ≤ w) (hi : i < 7) (hu : u ≤ 90) (hv : v ≤ 30) (k : ∀ h' : jx_H, jX h' B sz β (t + 1) u v c C N ((3, 126) :: (w, s) :: P) (i + 1) → jX_F β h h' → Q (some (jv_i 1)) h')  : jx_Ev jm_MD_unit (d + 6) 0 0 false 1 [jv_r 11 0] h Q := by
  show jx_W (jm_MD_unit, d + 6, 0, 0, false, 1, _) Q 0 0 0 [some (jv_r 11 0), none, none, none, none, none, none] [] _
  obtain ⟨xt, xm, xg, xb, xu, xv, xc, xC, xN, xl, xP, xi⟩ := hx
  have xl2 : jh_I h 11 0 47 = nI (P.length + 1) := xl
  have hp := @jT_p_le B sz t
  have hsz := xt.2.1
  have hK2 : jT_k B sz (jT_p B sz t) = 128 := hK
  refine jr_aload rfl rfl ?_
  refine jr_getR rfl rfl rfl rfl (Or.inl rfl) ?_
  refine jr_aload rfl rfl ?_
  refine jr_getI rfl rfl ?_
  refine jr_ic rfl ?_
  refine jr_isub rfl ?_
  refine jr_iald (len := 90) rfl rfl (jn_sub xl2 (show _ = nI 1 from rfl) (by omega)) (by omega) ?_
  rw [show jh_I h 95 0 (P.length + 1 - 1) = nI w from xP.1]
  refine jr_ic rfl ?_
  refine jr_icmp_le rfl (fun c8 => ?_) (fun c8 => ?_)
  · refine jr_ic rfl ?_
    refine jr_goto rfl ?_
    refine jr_ist1 rfl rfl ?_
    refine jr_iload rfl rfl ?_
    refine jr_if_eq rfl (fun z => absurd z (by decide)) (fun _ => ?_)
    refine jr_aload rfl rfl ?_
    refine jr_lc rfl ?_
    refine jr_cv1 (mc' := 0) (ms' := 0) rfl jm_MD_isWord_n jm_MD_isWord_f rfl rfl rfl rfl rfl rfl rfl (Nat.zero_le _) (Nat.zero_le _) ?_
    refine eM_isWord xm (i := 28) (by decide) jT_W28 ?_
    refine jr_if_eq rfl (fun z => absurd z (by rw [if_pos hK]; decide)) (fun _ => ?_)
    refine jr_ic rfl ?_
    refine jr_goto rfl ?_
    refine jr_ist2 rfl rfl ?_
    refine jr_aload rfl rfl ?_
    refine jr_ic rfl ?_
    refine jr_cv1 (mc' := 0) (ms' := 0) rfl jm_MD_isSignHere_n jm_MD_isSignHere_f rfl rfl rfl rfl rfl rfl rfl (Nat.zero_le _) (Nat.zero_le _) ?_
    refine eM_isSignHere (s := 40) xt xm (by decide) ?_
    refine jr_ist3 rfl rfl ?_
    refine jr_aload rfl rfl ?_
    refine jr_cv0 (mc' := 0) (ms' := 0) rfl jm_MD_wordHere_n jm_MD_wordHere_f rfl rfl rfl rfl rfl rfl rfl (Nat.zero_le _) (Nat.zero_le _) ?_
    refine eM_wordHere xm ?_
    refine jr_ist4 rfl rfl ?_
    refine jr_aload rfl rfl ?_
    refine jr_getR rfl rfl rfl rfl (Or.inl rfl) ?_
    refine jr_aload rfl rfl ?_
    refine jr_getI rfl rfl ?_
    refine jr_iald (len := 2) rfl rfl xb (by omega) ?_
    rw [xu]
    refine jr_ic rfl ?_
    refine jr_icmp_eq rfl (fun c45 => ?_) (fun c45 => ?_)
    · refine jr_ic rfl ?_
      refine jr_goto rfl ?_
      refine jr_ist5 rfl rfl ?_
      refine jr_iload rfl rfl ?_
      refine jr_if_ne rfl (fun _ => ?_) (fun z => absurd z (by decide))
      refine jr_iload rfl rfl ?_
      refine jr_if_ne rfl (fun _ => ?_) (fun z => absurd z (by decide))
      refine jr_aload rfl rfl ?_
      refine jr_getI rfl rfl ?_
      refine jr_ic rfl ?_
      refine jr_icmp_ne rfl (fun _ => ?_) (fun z => absurd z (fun z => by have := jn_eq ((show jh_I h 11 0 46 = nI i from xi).symm.trans (show jh_I h 11 0 46 = nI 7 from z)) (by omega) (by decide); omega))
      refine jr_aload rfl rfl ?_
      refine jr_cv0 (mc' := 0) (ms' := 0) rfl jm_MD_isGood_n jm_MD_isGood_f rfl rfl rfl rfl rfl rfl rfl (Nat.zero_le _) (Nat.zero_le _) ?_
      show jx_W (jm_MD_isGood, _, _, _, _, _, _) _ 0 0 0 [some _] [] _
      refine jr_aload rfl rfl ?_
      refine jr_getI rfl rfl ?_
      refine jr_if_ne rfl (fun z => absurd xg z) (fun _ => ?_)
      refine jr_ic rfl ?_
      refine jr_goto rfl ?_
      refine jr_zret rfl rfl rfl (Nat.zero_le _) (Nat.zero_le _) ?_
      refine jr_if_ne rfl (fun _ => ?_) (fun z => absurd z (by decide))
      refine jr_aload rfl rfl ?_
      refine jr_getR rfl rfl rfl rfl (Or.inl rfl) ?_
      refine jr_aload rfl rfl ?_
      refine jr_getI rfl rfl ?_
      refine jr_dup2 rfl ?_
      refine jr_iald (len := 2) rfl rfl xb (by omega) ?_
      refine jr_iload rfl rfl ?_
      refine jr_if_eq rfl (fun z => absurd z (by decide)) (fun _ => ?_)
      refine jr_ic rfl ?_
      refine jr_goto rfl ?_
      refine jr_iadd rfl ?_
      refine jr_iast (len := 2) rfl rfl xb (by omega) ?_
      refine jr_aload rfl rfl ?_
      refine jr_dup_r rfl ?_
      refine jr_getI rfl rfl ?_
      refine jr_iload rfl rfl ?_
      refine jr_if_eq rfl (fun z => absurd z (by decide)) (fun _ => ?_)
      refine jr_ic rfl ?_
      refine jr_goto rfl ?_
      refine jr_iadd rfl ?_
      refine jr_putI rfl rfl ?_
      refine jr_iload rfl rfl ?_
      refine jr_if_ne rfl (fun z => absurd (show nI (jT_wh (jT_K B sz t)) = 0 by rw [hwh]; rfl) z) (fun _ => ?_)
      refine jr_aload rfl rfl ?_
      refine jr_getI rfl rfl ?_
      refine jr_goto rfl ?_
      refine jr_ist6 rfl rfl ?_
      refine jr_aload rfl rfl ?_
      refine jr_cv0 (mc' := 0) (ms' := 0) rfl jm_MD_goOn_n jm_MD_goOn_f rfl rfl rfl rfl rfl rfl rfl (Nat.zero_le _) (Nat.zero_le _) ?_
      refine eM_goOn (B := B) (sz := sz) (t := t + 1) xt.1 xt.2.1 xt.2.2.1 xm.2.1 (fun h1 g1 m1 => ?_)
      refine jr_iload rfl rfl ?_
      refine jr_if_ne rfl (fun _ => ?_) (fun z => absurd z (by decide))
      refine jr_aload rfl rfl ?_
      refine jr_iload rfl rfl ?_
      refine jr_if_eq rfl (fun z => absurd z (by decide)) (fun _ => ?_)
      refine jr_ic rfl ?_
      refine jr_goto rfl ?_
      refine jr_ic rfl ?_
      refine jr_cv2 (mc' := 0) (ms' := 0) rfl jm_MD_pushE_n jm_MD_pushE_f rfl rfl rfl rfl rfl rfl rfl (Nat.zero_le _) (Nat.zero_le _) ?_
      show jx_W (jm_MD_pushE, _, _, _, _, _, _) _ 0 0 0 [some _, some _, some _] [] _
      refine jr_aload rfl rfl ?_
      refine jr_getR rfl rfl rfl rfl (Or.inl rfl) ?_
      refine jr_aload rfl rfl ?_
      refine jr_getI rfl rfl ?_
      refine jr_iload rfl rfl ?_
      refine jr_iast (len := 90) rfl rfl ((g1.2.2.2 47 (by decide)).trans xl2) (by omega) ?_
      refine jr_aload rfl rfl ?_
      refine jr_getR rfl rfl rfl rfl (Or.inl rfl) ?_
      refine jr_aload rfl rfl ?_
      refine jr_getI rfl rfl ?_
      refine jr_iload rfl rfl ?_
      refine jr_iast (len := 90) rfl rfl ((g1.2.2.2 47 (by decide)).trans xl2) (by omega) ?_
      refine jr_aload rfl rfl ?_
      refine jr_dup_r rfl ?_
      refine jr_getI rfl rfl ?_
      refine jr_ic rfl ?_
      refine jr_iadd rfl ?_
      refine jr_putI rfl rfl ?_
      refine jr_vret rfl rfl (Nat.zero_le _) (Nat.zero_le _) ?_
      refine jr_aload rfl rfl ?_
      refine jr_dup_r rfl ?_
      refine jr_getI rfl rfl ?_
      refine jr_ic rfl ?_
      refine jr_iadd rfl ?_
      refine jr_putI rfl rfl ?_
      refine jr_ic rfl ?_
      refine jr_zret rfl rfl rfl (Nat.zero_le _) (Nat.zero_le _) ?_
      have e47 : jh_I h1 11 0 47 = nI (P.length + 1) := (g1.2.2.2 47 (by decide)).trans xl2
      have e46 : jh_I h1 11 0 46 = nI i := (g1.2.2.2 46 (by decide)).trans xi
      refine k _ ⟨?_, m1, ?_, ?_, ?_, ?_, ?_, ?_, ?_, ?_, ?_, ?_⟩ ?_
      · exact ⟨(g1.2.2.2 3 (by decide)).trans xt.1, hsz, (congrArg (fun z => jT_c z sz) (g1.1 65 0 (by decide))).trans xt.2.2.1, (g1.2.2.2 5 (by decide)).trans xt.2.2.2⟩
      · exact (g1.2.2.2 4 (by decide)).trans xg
      · exact (g1.2.2.2 44 (by decide)).trans xb
      · refine (congrFun (g1.1 69 0 (by decide)) β).trans ?_
        show upd (jh_I h 69 0) β (jh_I h 69 0 β + 0) β = _
        rw [jg_us, xu, Int32.add_zero]
      · refine (g1.2.2.2 48 (by decide)).trans ?_
        show upd (jh_I h 11 0) 48 (jh_I h 11 0 48 + 0) 48 = _
        rw [jg_us, xv, Int32.add_zero]
      · exact (g1.2.2.2 45 (by decide)).trans xc
      · exact (g1.1 93 0 (by decide)).trans xC
      · exact (g1.1 94 0 (by decide)).trans xN
      · show upd (upd (jh_I h1 11 0) 47 (jh_I h1 11 0 47 + 1)) 46 (jh_I h1 11 0 46 + 1) 47 = _
        rw [jg_un (by decide), jg_us, e47, jn_S]
        rfl
      · have e95 := g1.1 95 0 (by decide)
        have e96 := g1.1 96 0 (by decide)
        refine ⟨?_, by decide, ?_, jp_ok_e xP (fun q hq => ?_)⟩
        · exact jg_us _ _ _
        · exact jg_us _ _ _
        · constructor
          · refine (jg_un (Nat.ne_of_lt hq)).trans (congrFun e95 q)
          · refine (jg_un (Nat.ne_of_lt hq)).trans (congrFun e96 q)
      · show upd (upd (jh_I h1 11 0) 47 (jh_I h1 11 0 47 + 1)) 46 (jh_I h1 11 0 46 + 1) 46 = _
        rw [jg_us, e46, jn_S]
      · refine ⟨fun a b z1 z2 z3 z4 z5 z6 => ?_, fun a b z1 => g1.2.1 a b z1, g1.2.2.1, fun f hf => ?_, fun q hq => ?_⟩
        · refine (if_neg (fun y => z1 y.1)).trans ((if_neg (fun y => z1 y.1)).trans ((if_neg (fun y => z6 y.1)).trans ((if_neg (fun y => z5 y.1)).trans ?_)))
          refine (g1.1 a b z1).trans ?_
          exact (if_neg (fun y => z1 y.1)).trans (if_neg (fun y => z2 y.1))
        · refine (jg_un (by omega)).trans ((jg_un (by omega)).trans ?_)
          refine (g1.2.2.2 f (by omega)).trans ?_
          exact jg_un (by omega)
        · refine (congrFun (g1.1 69 0 (by decide)) q).trans ?_
          exact jg_un hq
    · refine jr_aload rfl rfl ?_
      refine jr_getI rfl rfl ?_
      rw [xv]
      refine jr_ic rfl ?_
      refine jr_icmp_ne rfl (fun c49 => ?_) (fun c49 => ?_)
      · refine jr_ic rfl ?_
        refine jr_ist5 rfl rfl ?_
        refine jr_iload rfl rfl ?_
        refine jr_if_ne rfl (fun _ => ?_) (fun z => absurd z (by decide))
        refine jr_iload rfl rfl ?_
        refine jr_if_ne rfl (fun _ => ?_) (fun z => absurd z (by decide))
        refine jr_aload rfl rfl ?_
        refine jr_getI rfl rfl ?_
        refine jr_ic rfl ?_
        refine jr_icmp_ne rfl (fun _ => ?_) (fun z => absurd z (fun z => by have := jn_eq ((show jh_I h 11 0 46 = nI i from xi).symm.trans (show jh_I h 11 0 46 = nI 7 from z)) (by omega) (by decide); omega))
        refine jr_aload rfl rfl ?_
        refine jr_cv0 (mc' := 0) (ms' := 0) rfl jm_MD_isGood_n jm_MD_isGood_f rfl rfl rfl rfl rfl rfl rfl (Nat.zero_le _) (Nat.zero_le _) ?_
        show jx_W (jm_MD_isGood, _, _, _, _, _, _) _ 0 0 0 [some _] [] _
        refine jr_aload rfl rfl ?_
        refine jr_getI rfl rfl ?_
        refine jr_if_ne rfl (fun z => absurd xg z) (fun _ => ?_)
        refine jr_ic rfl ?_
        refine jr_goto rfl ?_
        refine jr_zret rfl rfl rfl (Nat.zero_le _) (Nat.zero_le _) ?_
        refine jr_if_ne rfl (fun _ => ?_) (fun z => absurd z (by decide))
        refine jr_aload rfl rfl ?_
        refine jr_getR rfl rfl rfl rfl (Or.inl rfl) ?_
        refine jr_aload rfl rfl ?_
        refine jr_getI rfl rfl ?_
        refine jr_dup2 rfl ?_
        refine jr_iald (len := 2) rfl rfl xb (by omega) ?_
        refine jr_iload rfl rfl ?_
        refine jr_if_eq rfl (fun z => absurd z (by decide)) (fun _ => ?_)
        refine jr_ic rfl ?_
        refine jr_goto rfl ?_
        refine jr_iadd rfl ?_
        refine jr_iast (len := 2) rfl rfl xb (by omega) ?_
        refine jr_aload rfl rfl ?_
        refine jr_dup_r rfl ?_
        refine jr_getI rfl rfl ?_
        refine jr_iload rfl rfl ?_
        refine jr_if_eq rfl (fun z => absurd z (by decide)) (fun _ => ?_)
        refine jr_ic rfl ?_
        refine jr_goto rfl ?_
        refine jr_iadd rfl ?_
        refine jr_putI rfl rfl ?_
        refine jr_iload rfl rfl ?_
        refine jr_if_ne rfl (fun z => absurd (show nI (jT_wh (jT_K B sz t)) = 0 by rw [hwh]; rfl) z) (fun _ => ?_)
        refine jr_aload rfl rfl ?_
        refine jr_getI rfl rfl ?_
        refine jr_goto rfl ?_
        refine jr_ist6 rfl rfl ?_
        refine jr_aload rfl rfl ?_
        refine jr_cv0 (mc' := 0) (ms' := 0) rfl jm_MD_goOn_n jm_MD_goOn_f rfl rfl rfl rfl rfl rfl rfl (Nat.zero_le _) (Nat.zero_le _) ?_
        refine eM_goOn (B := B) (sz := sz) (t := t + 1) xt.1 xt.2.1 xt.2.2.1 xm.2.1 (fun h1 g1 m1 => ?_)
        refine jr_iload rfl rfl ?_
        refine jr_if_ne rfl (fun _ => ?_) (fun z => absurd z (by decide))
        refine jr_aload rfl rfl ?_
        refine jr_iload rfl rfl ?_
        refine jr_if_eq rfl (fun z => absurd z (by decide)) (fun _ => ?_)
        refine jr_ic rfl ?_
        refine jr_goto rfl ?_
        refine jr_ic rfl ?_
        refine jr_cv2 (mc' := 0) (ms' := 0) rfl jm_MD_pushE_n jm_MD_pushE_f rfl rfl rfl rfl rfl rfl rfl (Nat.zero_le _) (Nat.zero_le _) ?_
        show jx_W (jm_MD_pushE, _, _, _, _, _, _) _ 0 0 0 [some _, some _, some _] [] _
        refine jr_aload rfl rfl ?_
        refine jr_getR rfl rfl rfl rfl (Or.inl rfl) ?_
        refine jr_aload rfl rfl ?_
        refine jr_getI rfl rfl ?_
        refine jr_iload rfl rfl ?_
        refine jr_iast (len := 90) rfl rfl ((g1.2.2.2 47 (by decide)).trans xl2) (by omega) ?_
        refine jr_aload rfl rfl ?_
        refine jr_getR rfl rfl rfl rfl (Or.inl rfl) ?_
        refine jr_aload rfl rfl ?_
        refine jr_getI rfl rfl ?_
        refine jr_iload rfl rfl ?_
        refine jr_iast (len := 90) rfl rfl ((g1.2.2.2 47 (by decide)).trans xl2) (by omega) ?_
        refine jr_aload rfl rfl ?_
        refine jr_dup_r rfl ?_
        refine jr_getI rfl rfl ?_
        refine jr_ic rfl ?_
        refine jr_iadd rfl ?_
        refine jr_putI rfl rfl ?_
        refine jr_vret rfl rfl (Nat.zero_le _) (Nat.zero_le _) ?_
        refine jr_aload rfl rfl ?_
        refine jr_dup_r rfl ?_
        refine jr_getI rfl rfl ?_
        refine jr_ic rfl ?_
        refine jr_iadd rfl ?_
        refine jr_putI rfl rfl ?_
        refine jr_ic rfl ?_
        refine jr_zret rfl rfl rfl (Nat.zero_le _) (Nat.zero_le _) ?_
        have e47 : jh_I h1 11 0 47 = nI (P.length + 1) := (g1.2.2.2 47 (by decide)).trans xl2
        have e46 : jh_I h1 11 0 46 = nI i := (g1.2.2.2 46 (by decide)).trans xi
        refine k _ ⟨?_, m1, ?_, ?_, ?_, ?_, ?_, ?_, ?_, ?_, ?_, ?_⟩ ?_
        · exact ⟨(g1.2.2.2 3 (by decide)).trans xt.1, hsz, (congrArg (fun z => jT_c z sz) (g1.1 65 0 (by decide))).trans xt.2.2.1, (g1.2.2.2 5 (by decide)).trans xt.2.2.2⟩
        · exact (g1.2.2.2 4 (by decide)).trans xg
        · exact (g1.2.2.2 44 (by decide)).trans xb
        · refine (congrFun (g1.1 69 0 (by decide)) β).trans ?_
          show upd (jh_I h 69 0) β (jh_I h 69 0 β + 0) β = _
          rw [jg_us, xu, Int32.add_zero]
        · refine (g1.2.2.2 48 (by decide)).trans ?_
          show upd (jh_I h 11 0) 48 (jh_I h 11 0 48 + 0) 48 = _
          rw [jg_us, xv, Int32.add_zero]
        · exact (g1.2.2.2 45 (by decide)).trans xc
        · exact (g1.1 93 0 (by decide)).trans xC
        · exact (g1.1 94 0 (by decide)).trans xN
        · show upd (upd (jh_I h1 11 0) 47 (jh_I h1 11 0 47 + 1)) 46 (jh_I h1 11 0 46 + 1) 47 = _
          rw [jg_un (by decide), jg_us, e47, jn_S]
          rfl
        · have e95 := g1.1 95 0 (by decide)
          have e96 := g1.1 96 0 (by decide)
          refine ⟨?_, by decide, ?_, jp_ok_e xP (fun q hq => ?_)⟩
          · exact jg_us _ _ _
          · exact jg_us _ _ _
          · constructor
            · refine (jg_un (Nat.ne_of_lt hq)).trans (congrFun e95 q)
            · refine (jg_un (Nat.ne_of_lt hq)).trans (congrFun e96 q)
        · show upd (upd (jh_I h1 11 0) 47 (jh_I h1 11 0 47 + 1)) 46 (jh_I h1 11 0 46 + 1) 46 = _
          rw [jg_us, e46, jn_S]
        · refine ⟨fun a b z1 z2 z3 z4 z5 z6 => ?_, fun a b z1 => g1.2.1 a b z1, g1.2.2.1, fun f hf => ?_, fun q hq => ?_⟩
          · refine (if_neg (fun y => z1 y.1)).trans ((if_neg (fun y => z1 y.1)).trans ((if_neg (fun y => z6 y.1)).trans ((if_neg (fun y => z5 y.1)).trans ?_)))
            refine (g1.1 a b z1).trans ?_
            exact (if_neg (fun y => z1 y.1)).trans (if_neg (fun y => z2 y.1))
          · refine (jg_un (by omega)).trans ((jg_un (by omega)).trans ?_)
            refine (g1.2.2.2 f (by omega)).trans ?_
            exact jg_un (by omega)
          · refine (congrFun (g1.1 69 0 (by decide)) q).trans ?_
            exact jg_un hq
      · refine jr_ic rfl ?_
        refine jr_goto rfl ?_
        refine jr_ist5 rfl rfl ?_
        refine jr_iload rfl rfl ?_
        refine jr_if_ne rfl (fun _ => ?_) (fun z => absurd z (by decide))
        refine jr_iload rfl rfl ?_
        refine jr_if_ne rfl (fun _ => ?_) (fun z => absurd z (by decide))
        refine jr_aload rfl rfl ?_
        refine jr_getI rfl rfl ?_
        refine jr_ic rfl ?_
        refine jr_icmp_ne rfl (fun _ => ?_) (fun z => absurd z (fun z => by have := jn_eq ((show jh_I h 11 0 46 = nI i from xi).symm.trans (show jh_I h 11 0 46 = nI 7 from z)) (by omega) (by decide); omega))
        refine jr_aload rfl rfl ?_
        refine jr_cv0 (mc' := 0) (ms' := 0) rfl jm_MD_isGood_n jm_MD_isGood_f rfl rfl rfl rfl rfl rfl rfl (Nat.zero_le _) (Nat.zero_le _) ?_
        show jx_W (jm_MD_isGood, _, _, _, _, _, _) _ 0 0 0 [some _] [] _
        refine jr_aload rfl rfl ?_
        refine jr_getI rfl rfl ?_
        refine jr_if_ne rfl (fun z => absurd xg z) (fun _ => ?_)
        refine jr_ic rfl ?_
        refine jr_goto rfl ?_
        refine jr_zret rfl rfl rfl (Nat.zero_le _) (Nat.zero_le _) ?_
        refine jr_if_ne rfl (fun _ => ?_) (fun z => absurd z (by decide))
        refine jr_aload rfl rfl ?_
        refine jr_getR rfl rfl rfl rfl (Or.inl rfl) ?_
        refine jr_aload rfl rfl ?_
        refine jr_getI rfl rfl ?_
        refine jr_dup2 rfl ?_
        refine jr_iald (len := 2) rfl rfl xb (by omega) ?_
        refine jr_iload rfl rfl ?_
        refine jr_if_eq rfl (fun z => absurd z (by decide)) (fun _ => ?_)
        refine jr_ic rfl ?_
        refine jr_goto rfl ?_
        refine jr_iadd rfl ?_
        refine jr_iast (len := 2) rfl rfl xb (by omega) ?_
        refine jr_aload rfl rfl ?_
        refine jr_dup_r rfl ?_
        refine jr_getI rfl rfl ?_
        refine jr_iload rfl rfl ?_
        refine jr_if_eq rfl (fun z => absurd z (by decide)) (fun _ => ?_)
        refine jr_ic rfl ?_
        refine jr_goto rfl ?_
        refine jr_iadd rfl ?_
        refine jr_putI rfl rfl ?_
        refine jr_iload rfl rfl ?_
        refine jr_if_ne rfl (fun z => absurd (show nI (jT_wh (jT_K B sz t)) = 0 by rw [hwh]; rfl) z) (fun _ => ?_)
        refine jr_aload rfl rfl ?_
        refine jr_getI rfl rfl ?_
        refine jr_goto rfl ?_
        refine jr_ist6 rfl rfl ?_
        refine jr_aload rfl rfl ?_
        refine jr_cv0 (mc' := 0) (ms' := 0) rfl jm_MD_goOn_n jm_MD_goOn_f rfl rfl rfl rfl rfl rfl rfl (Nat.zero_le _) (Nat.zero_le _) ?_
        refine eM_goOn (B := B) (sz := sz) (t := t + 1) xt.1 xt.2.1 xt.2.2.1 xm.2.1 (fun h1 g1 m1 => ?_)
        refine jr_iload rfl rfl ?_
        refine jr_if_ne rfl (fun _ => ?_) (fun z => absurd z (by decide))
        refine jr_aload rfl rfl ?_
        refine jr_iload rfl rfl ?_
        refine jr_if_eq rfl (fun z => absurd z (by decide)) (fun _ => ?_)
        refine jr_ic rfl ?_
        refine jr_goto rfl ?_
        refine jr_ic rfl ?_
        refine jr_cv2 (mc' := 0) (ms' := 0) rfl jm_MD_pushE_n jm_MD_pushE_f rfl rfl rfl rfl rfl rfl rfl (Nat.zero_le _) (Nat.zero_le _) ?_
        show jx_W (jm_MD_pushE, _, _, _, _, _, _) _ 0 0 0 [some _, some _, some _] [] _
        refine jr_aload rfl rfl ?_
        refine jr_getR rfl rfl rfl rfl (Or.inl rfl) ?_
        refine jr_aload rfl rfl ?_
        refine jr_getI rfl rfl ?_
        refine jr_iload rfl rfl ?_
        refine jr_iast (len := 90) rfl rfl ((g1.2.2.2 47 (by decide)).trans xl2) (by omega) ?_
        refine jr_aload rfl rfl ?_
        refine jr_getR rfl rfl rfl rfl (Or.inl rfl) ?_
        refine jr_aload rfl rfl ?_
        refine jr_getI rfl rfl ?_
        refine jr_iload rfl rfl ?_
        refine jr_iast (len := 90) rfl rfl ((g1.2.2.2 47 (by decide)).trans xl2) (by omega) ?_
        refine jr_aload rfl rfl ?_
        refine jr_dup_r rfl ?_
        refine jr_getI rfl rfl ?_
        refine jr_ic rfl ?_
        refine jr_iadd rfl ?_
        refine jr_putI rfl rfl ?_
        refine jr_vret rfl rfl (Nat.zero_le _) (Nat.zero_le _) ?_
        refine jr_aload rfl rfl ?_
        refine jr_dup_r rfl ?_
        refine jr_getI rfl rfl ?_
        refine jr_ic rfl ?_
        refine jr_iadd rfl ?_
        refine jr_putI rfl rfl ?_
        refine jr_ic rfl ?_
        refine jr_zret rfl rfl rfl (Nat.zero_le _) (Nat.zero_le _) ?_
        have e47 : jh_I h1 11 0 47 = nI (P.length + 1) := (g1.2.2.2 47 (by decide)).trans xl2
        have e46 : jh_I h1 11 0 46 = nI i := (g1.2.2.2 46 (by decide)).trans xi
        refine k _ ⟨?_, m1, ?_, ?_, ?_, ?_, ?_, ?_, ?_, ?_, ?_, ?_⟩ ?_
        · exact ⟨(g1.2.2.2 3 (by decide)).trans xt.1, hsz, (congrArg (fun z => jT_c z sz) (g1.1 65 0 (by decide))).trans xt.2.2.1, (g1.2.2.2 5 (by decide)).trans xt.2.2.2⟩
        · exact (g1.2.2.2 4 (by decide)).trans xg
        · exact (g1.2.2.2 44 (by decide)).trans xb
        · refine (congrFun (g1.1 69 0 (by decide)) β).trans ?_
          show upd (jh_I h 69 0) β (jh_I h 69 0 β + 0) β = _
          rw [jg_us, xu, Int32.add_zero]
        · refine (g1.2.2.2 48 (by decide)).trans ?_
          show upd (jh_I h 11 0) 48 (jh_I h 11 0 48 + 0) 48 = _
          rw [jg_us, xv, Int32.add_zero]
        · exact (g1.2.2.2 45 (by decide)).trans xc
        · exact (g1.1 93 0 (by decide)).trans xC
        · exact (g1.1 94 0 (by decide)).trans xN
        · show upd (upd (jh_I h1 11 0) 47 (jh_I h1 11 0 47 + 1)) 46 (jh_I h1 11 0 46 + 1) 47 = _
          rw [jg_un (by decide), jg_us, e47, jn_S]
          rfl
        · have e95 := g1.1 95 0 (by decide)
          have e96 := g1.1 96 0 (by decide)
          refine ⟨?_, by decide, ?_, jp_ok_e xP (fun q hq => ?_)⟩
          · exact jg_us _ _ _
          · exact jg_us _ _ _
          · constructor
            · refine (jg_un (Nat.ne_of_lt hq)).trans (congrFun e95 q)
            · refine (jg_un (Nat.ne_of_lt hq)).trans (congrFun e96 q)
        · show upd (upd (jh_I h1 11 0) 47 (jh_I h1 11 0 47 + 1)) 46 (jh_I h1 11 0 46 + 1) 46 = _
          rw [jg_us, e46, jn_S]
        · refine ⟨fun a b z1 z2 z3 z4 z5 z6 => ?_, fun a b z1 => g1.2.1 a b z1, g1.2.2.1, fun f hf => ?_, fun q hq => ?_⟩
          · refine (if_neg (fun y => z1 y.1)).trans ((if_neg (fun y => z1 y.1)).trans ((if_neg (fun y => z6 y.1)).trans ((if_neg (fun y => z5 y.1)).trans ?_)))
            refine (g1.1 a b z1).trans ?_
            exact (if_neg (fun y => z1 y.1)).trans (if_neg (fun y => z2 y.1))
          · refine (jg_un (by omega)).trans ((jg_un (by omega)).trans ?_)
            refine (g1.2.2.2 f (by omega)).trans ?_
            exact jg_un (by omega)
          · refine (congrFun (g1.1 69 0 (by decide)) q).trans ?_
            exact jg_un hq
  · refine jr_aload rfl rfl ?_
    refine jr_getR rfl rfl rfl rfl (Or.inl rfl) ?_
    refine jr_aload rfl rfl ?_
    refine jr_getI rfl rfl ?_
    refine jr_ic rfl ?_
    refine jr_isub rfl ?_
    refine jr_iald (len := 90) rfl rfl (jn_sub xl2 (show _ = nI 1 from rfl) (by omega)) (by omega) ?_
    rw [show jh_I h 95 0 (P.length + 1 - 1) = nI w from xP.1]
    refine jr_ic rfl ?_
    refine jr_icmp_lt rfl (fun c17 => ?_) (fun c17 => ?_)
    · exfalso
      have w7 := xP.2.1
      rcases hw with z | z
      · exact c8 (show nI w ≤ nI 3 from nI_le z (by decide))
      · exact absurd (show nI w < nI 7 from c17) (nI_nlt z (by omega))
    · refine jr_ic rfl ?_
      refine jr_goto rfl ?_
      refine jr_ist1 rfl rfl ?_
      refine jr_iload rfl rfl ?_
      refine jr_if_eq rfl (fun z => absurd z (by decide)) (fun _ => ?_)
      refine jr_aload rfl rfl ?_
      refine jr_lc rfl ?_
      refine jr_cv1 (mc' := 0) (ms' := 0) rfl jm_MD_isWord_n jm_MD_isWord_f rfl rfl rfl rfl rfl rfl rfl (Nat.zero_le _) (Nat.zero_le _) ?_
      refine eM_isWord xm (i := 28) (by decide) jT_W28 ?_
      refine jr_if_eq rfl (fun z => absurd z (by rw [if_pos hK]; decide)) (fun _ => ?_)
      refine jr_ic rfl ?_
      refine jr_goto rfl ?_
      refine jr_ist2 rfl rfl ?_
      refine jr_aload rfl rfl ?_
      refine jr_ic rfl ?_
      refine jr_cv1 (mc' := 0) (ms' := 0) rfl jm_MD_isSignHere_n jm_MD_isSignHere_f rfl rfl rfl rfl rfl rfl rfl (Nat.zero_le _) (Nat.zero_le _) ?_
      refine eM_isSignHere (s := 40) xt xm (by decide) ?_
      refine jr_ist3 rfl rfl ?_
      refine jr_aload rfl rfl ?_
      refine jr_cv0 (mc' := 0) (ms' := 0) rfl jm_MD_wordHere_n jm_MD_wordHere_f rfl rfl rfl rfl rfl rfl rfl (Nat.zero_le _) (Nat.zero_le _) ?_
      refine eM_wordHere xm ?_
      refine jr_ist4 rfl rfl ?_
      refine jr_aload rfl rfl ?_
      refine jr_getR rfl rfl rfl rfl (Or.inl rfl) ?_
      refine jr_aload rfl rfl ?_
      refine jr_getI rfl rfl ?_
      refine jr_iald (len := 2) rfl rfl xb (by omega) ?_
      rw [xu]
      refine jr_ic rfl ?_
      refine jr_icmp_eq rfl (fun c45 => ?_) (fun c45 => ?_)
      · refine jr_ic rfl ?_
        refine jr_goto rfl ?_
        refine jr_ist5 rfl rfl ?_
        refine jr_iload rfl rfl ?_
        refine jr_if_ne rfl (fun _ => ?_) (fun z => absurd z (by decide))
        refine jr_iload rfl rfl ?_
        refine jr_if_ne rfl (fun _ => ?_) (fun z => absurd z (by decide))
        refine jr_aload rfl rfl ?_
        refine jr_getI rfl rfl ?_
        refine jr_ic rfl ?_
        refine jr_icmp_ne rfl (fun _ => ?_) (fun z => absurd z (fun z => by have := jn_eq ((show jh_I h 11 0 46 = nI i from xi).symm.trans (show jh_I h 11 0 46 = nI 7 from z)) (by omega) (by decide); omega))
        refine jr_aload rfl rfl ?_
        refine jr_cv0 (mc' := 0) (ms' := 0) rfl jm_MD_isGood_n jm_MD_isGood_f rfl rfl rfl rfl rfl rfl rfl (Nat.zero_le _) (Nat.zero_le _) ?_
        show jx_W (jm_MD_isGood, _, _, _, _, _, _) _ 0 0 0 [some _] [] _
        refine jr_aload rfl rfl ?_
        refine jr_getI rfl rfl ?_
        refine jr_if_ne rfl (fun z => absurd xg z) (fun _ => ?_)
        refine jr_ic rfl ?_
        refine jr_goto rfl ?_
        refine jr_zret rfl rfl rfl (Nat.zero_le _) (Nat.zero_le _) ?_
        refine jr_if_ne rfl (fun _ => ?_) (fun z => absurd z (by decide))
        refine jr_aload rfl rfl ?_
        refine jr_getR rfl rfl rfl rfl (Or.inl rfl) ?_
        refine jr_aload rfl rfl ?_
        refine jr_getI rfl rfl ?_
        refine jr_dup2 rfl ?_
        refine jr_iald (len := 2) rfl rfl xb (by omega) ?_
        refine jr_iload rfl rfl ?_
        refine jr_if_eq rfl (fun z => absurd z (by decide)) (fun _ => ?_)
        refine jr_ic rfl ?_
        refine jr_goto rfl ?_
        refine jr_iadd rfl ?_
        refine jr_iast (len := 2) rfl rfl xb (by omega) ?_
        refine jr_aload rfl rfl ?_
        refine jr_dup_r rfl ?_
        refine jr_getI rfl rfl ?_
        refine jr_iload rfl rfl ?_
        refine jr_if_eq rfl (fun z => absurd z (by decide)) (fun _ => ?_)
        refine jr_ic rfl ?_
        refine jr_goto rfl ?_
        refine jr_iadd rfl ?_
        refine jr_putI rfl rfl ?_
        refine jr_iload rfl rfl ?_
        refine jr_if_ne rfl (fun z => absurd (show nI (jT_wh (jT_K B sz t)) = 0 by rw [hwh]; rfl) z) (fun _ => ?_)
        refine jr_aload rfl rfl ?_
        refine jr_getI rfl rfl ?_
        refine jr_goto rfl ?_
        refine jr_ist6 rfl rfl ?_
        refine jr_aload rfl rfl ?_
        refine jr_cv0 (mc' := 0) (ms' := 0) rfl jm_MD_goOn_n jm_MD_goOn_f rfl rfl rfl rfl rfl rfl rfl (Nat.zero_le _) (Nat.zero_le _) ?_
        refine eM_goOn (B := B) (sz := sz) (t := t + 1) xt.1 xt.2.1 xt.2.2.1 xm.2.1 (fun h1 g1 m1 => ?_)
        refine jr_iload rfl rfl ?_
        refine jr_if_ne rfl (fun _ => ?_) (fun z => absurd z (by decide))
        refine jr_aload rfl rfl ?_
        refine jr_iload rfl rfl ?_
        refine jr_if_eq rfl (fun z => absurd z (by decide)) (fun _ => ?_)
        refine jr_ic rfl ?_
        refine jr_goto rfl ?_
        refine jr_ic rfl ?_
        refine jr_cv2 (mc' := 0) (ms' := 0) rfl jm_MD_pushE_n jm_MD_pushE_f rfl rfl rfl rfl rfl rfl rfl (Nat.zero_le _) (Nat.zero_le _) ?_
        show jx_W (jm_MD_pushE, _, _, _, _, _, _) _ 0 0 0 [some _, some _, some _] [] _
        refine jr_aload rfl rfl ?_
        refine jr_getR rfl rfl rfl rfl (Or.inl rfl) ?_
        refine jr_aload rfl rfl ?_
        refine jr_getI rfl rfl ?_
        refine jr_iload rfl rfl ?_
        refine jr_iast (len := 90) rfl rfl ((g1.2.2.2 47 (by decide)).trans xl2) (by omega) ?_
        refine jr_aload rfl rfl ?_
        refine jr_getR rfl rfl rfl rfl (Or.inl rfl) ?_
        refine jr_aload rfl rfl ?_
        refine jr_getI rfl rfl ?_
        refine jr_iload rfl rfl ?_
        refine jr_iast (len := 90) rfl rfl ((g1.2.2.2 47 (by decide)).trans xl2) (by omega) ?_
        refine jr_aload rfl rfl ?_
        refine jr_dup_r rfl ?_
        refine jr_getI rfl rfl ?_
        refine jr_ic rfl ?_
        refine jr_iadd rfl ?_
        refine jr_putI rfl rfl ?_
        refine jr_vret rfl rfl (Nat.zero_le _) (Nat.zero_le _) ?_
        refine jr_aload rfl rfl ?_
        refine jr_dup_r rfl ?_
        refine jr_getI rfl rfl ?_
        refine jr_ic rfl ?_
        refine jr_iadd rfl ?_
        refine jr_putI rfl rfl ?_
        refine jr_ic rfl ?_
        refine jr_zret rfl rfl rfl (Nat.zero_le _) (Nat.zero_le _) ?_
        have e47 : jh_I h1 11 0 47 = nI (P.length + 1) := (g1.2.2.2 47 (by decide)).trans xl2
        have e46 : jh_I h1 11 0 46 = nI i := (g1.2.2.2 46 (by decide)).trans xi
        refine k _ ⟨?_, m1, ?_, ?_, ?_, ?_, ?_, ?_, ?_, ?_, ?_, ?_⟩ ?_
        · exact ⟨(g1.2.2.2 3 (by decide)).trans xt.1, hsz, (congrArg (fun z => jT_c z sz) (g1.1 65 0 (by decide))).trans xt.2.2.1, (g1.2.2.2 5 (by decide)).trans xt.2.2.2⟩
        · exact (g1.2.2.2 4 (by decide)).trans xg
        · exact (g1.2.2.2 44 (by decide)).trans xb
        · refine (congrFun (g1.1 69 0 (by decide)) β).trans ?_
          show upd (jh_I h 69 0) β (jh_I h 69 0 β + 0) β = _
          rw [jg_us, xu, Int32.add_zero]
        · refine (g1.2.2.2 48 (by decide)).trans ?_
          show upd (jh_I h 11 0) 48 (jh_I h 11 0 48 + 0) 48 = _
          rw [jg_us, xv, Int32.add_zero]
        · exact (g1.2.2.2 45 (by decide)).trans xc
        · exact (g1.1 93 0 (by decide)).trans xC
        · exact (g1.1 94 0 (by decide)).trans xN
        · show upd (upd (jh_I h1 11 0) 47 (jh_I h1 11 0 47 + 1)) 46 (jh_I h1 11 0 46 + 1) 47 = _
          rw [jg_un (by decide), jg_us, e47, jn_S]
          rfl
        · have e95 := g1.1 95 0 (by decide)
          have e96 := g1.1 96 0 (by decide)
          refine ⟨?_, by decide, ?_, jp_ok_e xP (fun q hq => ?_)⟩
          · exact jg_us _ _ _
          · exact jg_us _ _ _
          · constructor
            · refine (jg_un (Nat.ne_of_lt hq)).trans (congrFun e95 q)
            · refine (jg_un (Nat.ne_of_lt hq)).trans (congrFun e96 q)
        · show upd (upd (jh_I h1 11 0) 47 (jh_I h1 11 0 47 + 1)) 46 (jh_I h1 11 0 46 + 1) 46 = _
          rw [jg_us, e46, jn_S]
        · refine ⟨fun a b z1 z2 z3 z4 z5 z6 => ?_, fun a b z1 => g1.2.1 a b z1, g1.2.2.1, fun f hf => ?_, fun q hq => ?_⟩
          · refine (if_neg (fun y => z1 y.1)).trans ((if_neg (fun y => z1 y.1)).trans ((if_neg (fun y => z6 y.1)).trans ((if_neg (fun y => z5 y.1)).trans ?_)))
            refine (g1.1 a b z1).trans ?_
            exact (if_neg (fun y => z1 y.1)).trans (if_neg (fun y => z2 y.1))
          · refine (jg_un (by omega)).trans ((jg_un (by omega)).trans ?_)
            refine (g1.2.2.2 f (by omega)).trans ?_
            exact jg_un (by omega)
          · refine (congrFun (g1.1 69 0 (by decide)) q).trans ?_
            exact jg_un hq
      · refine jr_aload rfl rfl ?_
        refine jr_getI rfl rfl ?_
        rw [xv]
        refine jr_ic rfl ?_
        refine jr_icmp_ne rfl (fun c49 => ?_) (fun c49 => ?_)
        · refine jr_ic rfl ?_
          refine jr_ist5 rfl rfl ?_
          refine jr_iload rfl rfl ?_
          refine jr_if_ne rfl (fun _ => ?_) (fun z => absurd z (by decide))
          refine jr_iload rfl rfl ?_
          refine jr_if_ne rfl (fun _ => ?_) (fun z => absurd z (by decide))
          refine jr_aload rfl rfl ?_
          refine jr_getI rfl rfl ?_
          refine jr_ic rfl ?_
          refine jr_icmp_ne rfl (fun _ => ?_) (fun z => absurd z (fun z => by have := jn_eq ((show jh_I h 11 0 46 = nI i from xi).symm.trans (show jh_I h 11 0 46 = nI 7 from z)) (by omega) (by decide); omega))
          refine jr_aload rfl rfl ?_
          refine jr_cv0 (mc' := 0) (ms' := 0) rfl jm_MD_isGood_n jm_MD_isGood_f rfl rfl rfl rfl rfl rfl rfl (Nat.zero_le _) (Nat.zero_le _) ?_
          show jx_W (jm_MD_isGood, _, _, _, _, _, _) _ 0 0 0 [some _] [] _
          refine jr_aload rfl rfl ?_
          refine jr_getI rfl rfl ?_
          refine jr_if_ne rfl (fun z => absurd xg z) (fun _ => ?_)
          refine jr_ic rfl ?_
          refine jr_goto rfl ?_
          refine jr_zret rfl rfl rfl (Nat.zero_le _) (Nat.zero_le _) ?_
          refine jr_if_ne rfl (fun _ => ?_) (fun z => absurd z (by decide))
          refine jr_aload rfl rfl ?_
          refine jr_getR rfl rfl rfl rfl (Or.inl rfl) ?_
          refine jr_aload rfl rfl ?_
          refine jr_getI rfl rfl ?_
          refine jr_dup2 rfl ?_
          refine jr_iald (len := 2) rfl rfl xb (by omega) ?_
          refine jr_iload rfl rfl ?_
          refine jr_if_eq rfl (fun z => absurd z (by decide)) (fun _ => ?_)
          refine jr_ic rfl ?_
          refine jr_goto rfl ?_
          refine jr_iadd rfl ?_
          refine jr_iast (len := 2) rfl rfl xb (by omega) ?_
          refine jr_aload rfl rfl ?_
          refine jr_dup_r rfl ?_
          refine jr_getI rfl rfl ?_
          refine jr_iload rfl rfl ?_
          refine jr_if_eq rfl (fun z => absurd z (by decide)) (fun _ => ?_)
          refine jr_ic rfl ?_
          refine jr_goto rfl ?_
          refine jr_iadd rfl ?_
          refine jr_putI rfl rfl ?_
          refine jr_iload rfl rfl ?_
          refine jr_if_ne rfl (fun z => absurd (show nI (jT_wh (jT_K B sz t)) = 0 by rw [hwh]; rfl) z) (fun _ => ?_)
          refine jr_aload rfl rfl ?_
          refine jr_getI rfl rfl ?_
          refine jr_goto rfl ?_
          refine jr_ist6 rfl rfl ?_
          refine jr_aload rfl rfl ?_
          refine jr_cv0 (mc' := 0) (ms' := 0) rfl jm_MD_goOn_n jm_MD_goOn_f rfl rfl rfl rfl rfl rfl rfl (Nat.zero_le _) (Nat.zero_le _) ?_
          refine eM_goOn (B := B) (sz := sz) (t := t + 1) xt.1 xt.2.1 xt.2.2.1 xm.2.1 (fun h1 g1 m1 => ?_)
          refine jr_iload rfl rfl ?_
          refine jr_if_ne rfl (fun _ => ?_) (fun z => absurd z (by decide))
          refine jr_aload rfl rfl ?_
          refine jr_iload rfl rfl ?_
          refine jr_if_eq rfl (fun z => absurd z (by decide)) (fun _ => ?_)
          refine jr_ic rfl ?_
          refine jr_goto rfl ?_
          refine jr_ic rfl ?_
          refine jr_cv2 (mc' := 0) (ms' := 0) rfl jm_MD_pushE_n jm_MD_pushE_f rfl rfl rfl rfl rfl rfl rfl (Nat.zero_le _) (Nat.zero_le _) ?_
          show jx_W (jm_MD_pushE, _, _, _, _, _, _) _ 0 0 0 [some _, some _, some _] [] _
          refine jr_aload rfl rfl ?_
          refine jr_getR rfl rfl rfl rfl (Or.inl rfl) ?_
          refine jr_aload rfl rfl ?_
          refine jr_getI rfl rfl ?_
          refine jr_iload rfl rfl ?_
          refine jr_iast (len := 90) rfl rfl ((g1.2.2.2 47 (by decide)).trans xl2) (by omega) ?_
          refine jr_aload rfl rfl ?_
          refine jr_getR rfl rfl rfl rfl (Or.inl rfl) ?_
          refine jr_aload rfl rfl ?_
          refine jr_getI rfl rfl ?_
          refine jr_iload rfl rfl ?_
          refine jr_iast (len := 90) rfl rfl ((g1.2.2.2 47 (by decide)).trans xl2) (by omega) ?_
          refine jr_aload rfl rfl ?_
          refine jr_dup_r rfl ?_
          refine jr_getI rfl rfl ?_
          refine jr_ic rfl ?_
          refine jr_iadd rfl ?_
          refine jr_putI rfl rfl ?_
          refine jr_vret rfl rfl (Nat.zero_le _) (Nat.zero_le _) ?_
          refine jr_aload rfl rfl ?_
          refine jr_dup_r rfl ?_
          refine jr_getI rfl rfl ?_
          refine jr_ic rfl ?_
          refine jr_iadd rfl ?_
          refine jr_putI rfl rfl ?_
          refine jr_ic rfl ?_
          refine jr_zret rfl rfl rfl (Nat.zero_le _) (Nat.zero_le _) ?_
          have e47 : jh_I h1 11 0 47 = nI (P.length + 1) := (g1.2.2.2 47 (by decide)).trans xl2
          have e46 : jh_I h1 11 0 46 = nI i := (g1.2.2.2 46 (by decide)).trans xi
          refine k _ ⟨?_, m1, ?_, ?_, ?_, ?_, ?_, ?_, ?_, ?_, ?_, ?_⟩ ?_
          · exact ⟨(g1.2.2.2 3 (by decide)).trans xt.1, hsz, (congrArg (fun z => jT_c z sz) (g1.1 65 0 (by decide))).trans xt.2.2.1, (g1.2.2.2 5 (by decide)).trans xt.2.2.2⟩
          · exact (g1.2.2.2 4 (by decide)).trans xg
          · exact (g1.2.2.2 44 (by decide)).trans xb
          · refine (congrFun (g1.1 69 0 (by decide)) β).trans ?_
            show upd (jh_I h 69 0) β (jh_I h 69 0 β + 0) β = _
            rw [jg_us, xu, Int32.add_zero]
          · refine (g1.2.2.2 48 (by decide)).trans ?_
            show upd (jh_I h 11 0) 48 (jh_I h 11 0 48 + 0) 48 = _
            rw [jg_us, xv, Int32.add_zero]
          · exact (g1.2.2.2 45 (by decide)).trans xc
          · exact (g1.1 93 0 (by decide)).trans xC
          · exact (g1.1 94 0 (by decide)).trans xN
          · show upd (upd (jh_I h1 11 0) 47 (jh_I h1 11 0 47 + 1)) 46 (jh_I h1 11 0 46 + 1) 47 = _
            rw [jg_un (by decide), jg_us, e47, jn_S]
            rfl
          · have e95 := g1.1 95 0 (by decide)
            have e96 := g1.1 96 0 (by decide)
            refine ⟨?_, by decide, ?_, jp_ok_e xP (fun q hq => ?_)⟩
            · exact jg_us _ _ _
            · exact jg_us _ _ _
            · constructor
              · refine (jg_un (Nat.ne_of_lt hq)).trans (congrFun e95 q)
              · refine (jg_un (Nat.ne_of_lt hq)).trans (congrFun e96 q)
          · show upd (upd (jh_I h1 11 0) 47 (jh_I h1 11 0 47 + 1)) 46 (jh_I h1 11 0 46 + 1) 46 = _
            rw [jg_us, e46, jn_S]
          · refine ⟨fun a b z1 z2 z3 z4 z5 z6 => ?_, fun a b z1 => g1.2.1 a b z1, g1.2.2.1, fun f hf => ?_, fun q hq => ?_⟩
            · refine (if_neg (fun y => z1 y.1)).trans ((if_neg (fun y => z1 y.1)).trans ((if_neg (fun y => z6 y.1)).trans ((if_neg (fun y => z5 y.1)).trans ?_)))
              refine (g1.1 a b z1).trans ?_
              exact (if_neg (fun y => z1 y.1)).trans (if_neg (fun y => z2 y.1))
            · refine (jg_un (by omega)).trans ((jg_un (by omega)).trans ?_)
              refine (g1.2.2.2 f (by omega)).trans ?_
              exact jg_un (by omega)
            · refine (congrFun (g1.1 69 0 (by decide)) q).trans ?_
              exact jg_un hq
        · refine jr_ic rfl ?_
          refine jr_goto rfl ?_
          refine jr_ist5 rfl rfl ?_
          refine jr_iload rfl rfl ?_
          refine jr_if_ne rfl (fun _ => ?_) (fun z => absurd z (by decide))
          refine jr_iload rfl rfl ?_
          refine jr_if_ne rfl (fun _ => ?_) (fun z => absurd z (by decide))
          refine jr_aload rfl rfl ?_
          refine jr_getI rfl rfl ?_
          refine jr_ic rfl ?_
          refine jr_icmp_ne rfl (fun _ => ?_) (fun z => absurd z (fun z => by have := jn_eq ((show jh_I h 11 0 46 = nI i from xi).symm.trans (show jh_I h 11 0 46 = nI 7 from z)) (by omega) (by decide); omega))
          refine jr_aload rfl rfl ?_
          refine jr_cv0 (mc' := 0) (ms' := 0) rfl jm_MD_isGood_n jm_MD_isGood_f rfl rfl rfl rfl rfl rfl rfl (Nat.zero_le _) (Nat.zero_le _) ?_
          show jx_W (jm_MD_isGood, _, _, _, _, _, _) _ 0 0 0 [some _] [] _
          refine jr_aload rfl rfl ?_
          refine jr_getI rfl rfl ?_
          refine jr_if_ne rfl (fun z => absurd xg z) (fun _ => ?_)
          refine jr_ic rfl ?_
          refine jr_goto rfl ?_
          refine jr_zret rfl rfl rfl (Nat.zero_le _) (Nat.zero_le _) ?_
          refine jr_if_ne rfl (fun _ => ?_) (fun z => absurd z (by decide))
          refine jr_aload rfl rfl ?_
          refine jr_getR rfl rfl rfl rfl (Or.inl rfl) ?_
          refine jr_aload rfl rfl ?_
          refine jr_getI rfl rfl ?_
          refine jr_dup2 rfl ?_
          refine jr_iald (len := 2) rfl rfl xb (by omega) ?_
          refine jr_iload rfl rfl ?_
          refine jr_if_eq rfl (fun z => absurd z (by decide)) (fun _ => ?_)
          refine jr_ic rfl ?_
          refine jr_goto rfl ?_
          refine jr_iadd rfl ?_
          refine jr_iast (len := 2) rfl rfl xb (by omega) ?_
          refine jr_aload rfl rfl ?_
          refine jr_dup_r rfl ?_
          refine jr_getI rfl rfl ?_
          refine jr_iload rfl rfl ?_
          refine jr_if_eq rfl (fun z => absurd z (by decide)) (fun _ => ?_)
          refine jr_ic rfl ?_
          refine jr_goto rfl ?_
          refine jr_iadd rfl ?_
          refine jr_putI rfl rfl ?_
          refine jr_iload rfl rfl ?_
          refine jr_if_ne rfl (fun z => absurd (show nI (jT_wh (jT_K B sz t)) = 0 by rw [hwh]; rfl) z) (fun _ => ?_)
          refine jr_aload rfl rfl ?_
          refine jr_getI rfl rfl ?_
          refine jr_goto rfl ?_
          refine jr_ist6 rfl rfl ?_
          refine jr_aload rfl rfl ?_
          refine jr_cv0 (mc' := 0) (ms' := 0) rfl jm_MD_goOn_n jm_MD_goOn_f rfl rfl rfl rfl rfl rfl rfl (Nat.zero_le _) (Nat.zero_le _) ?_
          refine eM_goOn (B := B) (sz := sz) (t := t + 1) xt.1 xt.2.1 xt.2.2.1 xm.2.1 (fun h1 g1 m1 => ?_)
          refine jr_iload rfl rfl ?_
          refine jr_if_ne rfl (fun _ => ?_) (fun z => absurd z (by decide))
          refine jr_aload rfl rfl ?_
          refine jr_iload rfl rfl ?_
          refine jr_if_eq rfl (fun z => absurd z (by decide)) (fun _ => ?_)
          refine jr_ic rfl ?_
          refine jr_goto rfl ?_
          refine jr_ic rfl ?_
          refine jr_cv2 (mc' := 0) (ms' := 0) rfl jm_MD_pushE_n jm_MD_pushE_f rfl rfl rfl rfl rfl rfl rfl (Nat.zero_le _) (Nat.zero_le _) ?_
          show jx_W (jm_MD_pushE, _, _, _, _, _, _) _ 0 0 0 [some _, some _, some _] [] _
          refine jr_aload rfl rfl ?_
          refine jr_getR rfl rfl rfl rfl (Or.inl rfl) ?_
          refine jr_aload rfl rfl ?_
          refine jr_getI rfl rfl ?_
          refine jr_iload rfl rfl ?_
          refine jr_iast (len := 90) rfl rfl ((g1.2.2.2 47 (by decide)).trans xl2) (by omega) ?_
          refine jr_aload rfl rfl ?_
          refine jr_getR rfl rfl rfl rfl (Or.inl rfl) ?_
          refine jr_aload rfl rfl ?_
          refine jr_getI rfl rfl ?_
          refine jr_iload rfl rfl ?_
          refine jr_iast (len := 90) rfl rfl ((g1.2.2.2 47 (by decide)).trans xl2) (by omega) ?_
          refine jr_aload rfl rfl ?_
          refine jr_dup_r rfl ?_
          refine jr_getI rfl rfl ?_
          refine jr_ic rfl ?_
          refine jr_iadd rfl ?_
          refine jr_putI rfl rfl ?_
          refine jr_vret rfl rfl (Nat.zero_le _) (Nat.zero_le _) ?_
          refine jr_aload rfl rfl ?_
          refine jr_dup_r rfl ?_
          refine jr_getI rfl rfl ?_
          refine jr_ic rfl ?_
          refine jr_iadd rfl ?_
          refine jr_putI rfl rfl ?_
          refine jr_ic rfl ?_
          refine jr_zret rfl rfl rfl (Nat.zero_le _) (Nat.zero_le _) ?_
          have e47 : jh_I h1 11 0 47 = nI (P.length + 1) := (g1.2.2.2 47 (by decide)).trans xl2
          have e46 : jh_I h1 11 0 46 = nI i := (g1.2.2.2 46 (by decide)).trans xi
          refine k _ ⟨?_, m1, ?_, ?_, ?_, ?_, ?_, ?_, ?_, ?_, ?_, ?_⟩ ?_
          · exact ⟨(g1.2.2.2 3 (by decide)).trans xt.1, hsz, (congrArg (fun z => jT_c z sz) (g1.1 65 0 (by decide))).trans xt.2.2.1, (g1.2.2.2 5 (by decide)).trans xt.2.2.2⟩
          · exact (g1.2.2.2 4 (by decide)).trans xg
          · exact (g1.2.2.2 44 (by decide)).trans xb
          · refine (congrFun (g1.1 69 0 (by decide)) β).trans ?_
            show upd (jh_I h 69 0) β (jh_I h 69 0 β + 0) β = _
            rw [jg_us, xu, Int32.add_zero]
          · refine (g1.2.2.2 48 (by decide)).trans ?_
            show upd (jh_I h 11 0) 48 (jh_I h 11 0 48 + 0) 48 = _
            rw [jg_us, xv, Int32.add_zero]
          · exact (g1.2.2.2 45 (by decide)).trans xc
          · exact (g1.1 93 0 (by decide)).trans xC
          · exact (g1.1 94 0 (by decide)).trans xN
          · show upd (upd (jh_I h1 11 0) 47 (jh_I h1 11 0 47 + 1)) 46 (jh_I h1 11 0 46 + 1) 47 = _
            rw [jg_un (by decide), jg_us, e47, jn_S]
            rfl
          · have e95 := g1.1 95 0 (by decide)
            have e96 := g1.1 96 0 (by decide)
            refine ⟨?_, by decide, ?_, jp_ok_e xP (fun q hq => ?_)⟩
            · exact jg_us _ _ _
            · exact jg_us _ _ _
            · constructor
              · refine (jg_un (Nat.ne_of_lt hq)).trans (congrFun e95 q)
              · refine (jg_un (Nat.ne_of_lt hq)).trans (congrFun e96 q)
          · show upd (upd (jh_I h1 11 0) 47 (jh_I h1 11 0 47 + 1)) 46 (jh_I h1 11 0 46 + 1) 46 = _
            rw [jg_us, e46, jn_S]
          · refine ⟨fun a b z1 z2 z3 z4 z5 z6 => ?_, fun a b z1 => g1.2.1 a b z1, g1.2.2.1, fun f hf => ?_, fun q hq => ?_⟩
            · refine (if_neg (fun y => z1 y.1)).trans ((if_neg (fun y => z1 y.1)).trans ((if_neg (fun y => z6 y.1)).trans ((if_neg (fun y => z5 y.1)).trans ?_)))
              refine (g1.1 a b z1).trans ?_
              exact (if_neg (fun y => z1 y.1)).trans (if_neg (fun y => z2 y.1))
            · refine (jg_un (by omega)).trans ((jg_un (by omega)).trans ?_)
              refine (g1.2.2.2 f (by omega)).trans ?_
              exact jg_un (by omega)
            · refine (congrFun (g1.1 69 0 (by decide)) q).trans ?_
              exact jg_un hq

theorem jT_wh_lt (k : Nat) : jT_wh k < 128 := by
  unfold jT_wh
  repeat' split
  all_goals decide
theorem jT_wh_iff {k : Nat} : jT_wh k ≠ 0 ↔ 100 ≤ k ∧ k ≤ 106 := by
  unfold jT_wh
  repeat' split
  all_goals omega
set_option maxHeartbeats 800000 in
set_option maxRecDepth 100000 in
theorem eM_unit_r {d : Nat} {h : jx_H} {Q : Option jx_V → jx_H → Prop} {B : Nat → Int32} {sz β t u v c : Nat} {C N : Nat → Int32} {P : List (Nat × Int32)} {i w : Nat} {s : Int32}  (hx : jX h B sz β t u v c C N ((w, s) :: P) i) (hβ : β < 2) (hP : P.length < 60) (hR : (jT_wh (jT_K B sz t) = 0 ∧ jT_K B sz t ≠ 2 ∧ jT_K B sz t ≠ 40 ∧ (jT_K B sz t ≠ 128 ∨ (3 < w ∧ w < 7))) ∨ (jT_K B sz t = 40 ∧ i = 7) ∨ ((jT_wh (jT_K B sz t) ≠ 0 ∨ jT_K B sz t = 2 ∨ jT_K B sz t = 40) ∧ jT_K B sz t ≠ 128 ∧ (u = 90 ∨ v = 30)) ∨ (jT_K B sz t = 128 ∧ (w ≤ 3 ∨ 7 ≤ w) ∧ i = 7)) (hu : u ≤ 90) (hv : v ≤ 30) (hi : i ≤ 7) (k : ∀ h', jX_ft h h' (jX_kd (jT_K B sz t)) (jT_p B sz t) → Q (some (jv_i 1)) h')  : jx_Ev jm_MD_unit (d + 6) 0 0 false 1 [jv_r 11 0] h Q := by
  show jx_W (jm_MD_unit, d + 6, 0, 0, false, 1, _) Q 0 0 0 [some (jv_r 11 0), none, none, none, none, none, none] [] _
  obtain ⟨xt, xm, xg, xb, xu, xv, xc, xC, xN, xl, xP, xi⟩ := hx
  have xl2 : jh_I h 11 0 47 = nI (P.length + 1) := xl
  have hp := @jT_p_le B sz t
  have hsz := xt.2.1
  have xw := xP.2.1
  refine jr_aload rfl rfl ?_
  refine jr_getR rfl rfl rfl rfl (Or.inl rfl) ?_
  refine jr_aload rfl rfl ?_
  refine jr_getI rfl rfl ?_
  refine jr_ic rfl ?_
  refine jr_isub rfl ?_
  refine jr_iald (len := 90) rfl rfl (jn_sub xl2 (show _ = nI 1 from rfl) (by omega)) (by omega) ?_
  rw [show jh_I h 95 0 (P.length + 1 - 1) = nI w from xP.1]
  refine jr_ic rfl ?_
  refine jr_icmp_le rfl (fun c8 => ?_) (fun c8 => ?_)
  · refine jr_ic rfl ?_
    refine jr_goto rfl ?_
    refine jr_ist1 rfl rfl ?_
    refine jr_iload rfl rfl ?_
    refine jr_if_eq rfl (fun z => absurd z (by decide)) (fun _ => ?_)
    refine jr_aload rfl rfl ?_
    refine jr_lc rfl ?_
    refine jr_cv1 (mc' := 0) (ms' := 0) rfl jm_MD_isWord_n jm_MD_isWord_f rfl rfl rfl rfl rfl rfl rfl (Nat.zero_le _) (Nat.zero_le _) ?_
    refine eM_isWord xm (i := 28) (by decide) jT_W28 ?_
    refine jr_if_eq rfl (fun c27 => ?_) (fun c27 => ?_)
    · refine jr_ic rfl ?_
      refine jr_ist2 rfl rfl ?_
      refine jr_aload rfl rfl ?_
      refine jr_ic rfl ?_
      refine jr_cv1 (mc' := 0) (ms' := 0) rfl jm_MD_isSignHere_n jm_MD_isSignHere_f rfl rfl rfl rfl rfl rfl rfl (Nat.zero_le _) (Nat.zero_le _) ?_
      refine eM_isSignHere (s := 40) xt xm (by decide) ?_
      refine jr_ist3 rfl rfl ?_
      refine jr_aload rfl rfl ?_
      refine jr_cv0 (mc' := 0) (ms' := 0) rfl jm_MD_wordHere_n jm_MD_wordHere_f rfl rfl rfl rfl rfl rfl rfl (Nat.zero_le _) (Nat.zero_le _) ?_
      refine eM_wordHere xm ?_
      refine jr_ist4 rfl rfl ?_
      refine jr_aload rfl rfl ?_
      refine jr_getR rfl rfl rfl rfl (Or.inl rfl) ?_
      refine jr_aload rfl rfl ?_
      refine jr_getI rfl rfl ?_
      refine jr_iald (len := 2) rfl rfl xb (by omega) ?_
      rw [xu]
      refine jr_ic rfl ?_
      refine jr_icmp_eq rfl (fun c45 => ?_) (fun c45 => ?_)
      · refine jr_ic rfl ?_
        refine jr_goto rfl ?_
        refine jr_ist5 rfl rfl ?_
        refine jr_iload rfl rfl ?_
        refine jr_if_ne rfl (fun z => absurd (by decide) z) (fun _ => ?_)
        refine jr_iload rfl rfl ?_
        refine jr_if_ne rfl (fun c57 => ?_) (fun c57 => ?_)
        · refine jr_iload rfl rfl ?_
          refine jr_if_ne rfl (fun _ => ?_) (fun z => absurd z (by decide))
          refine jr_aload rfl rfl ?_
          refine jr_cv0 (mc' := 0) (ms' := 0) rfl jm_MD_misplaced_n jm_MD_misplaced_f rfl rfl rfl rfl rfl rfl rfl (Nat.zero_le _) (Nat.zero_le _) ?_
          refine eM_misplaced xg xm (fun h1 g1 => ?_)
          refine jr_aload rfl rfl ?_
          refine jr_cv0 (mc' := 0) (ms' := 0) rfl jm_MD_isGood_n jm_MD_isGood_f rfl rfl rfl rfl rfl rfl rfl (Nat.zero_le _) (Nat.zero_le _) ?_
          show jx_W (jm_MD_isGood, _, _, _, _, _, _) _ 0 0 0 [some _] [] _
          refine jr_aload rfl rfl ?_
          refine jr_getI rfl rfl ?_
          refine jr_if_ne rfl (fun _ => ?_) (fun z => absurd z (by rw [g1.2.2.2.1]; unfold jX_kd; split <;> decide))
          refine jr_ic rfl ?_
          refine jr_zret rfl rfl rfl (Nat.zero_le _) (Nat.zero_le _) ?_
          refine jr_if_ne rfl (fun z => absurd (by decide) z) (fun _ => ?_)
          refine jr_ic rfl ?_
          refine jr_zret rfl rfl rfl (Nat.zero_le _) (Nat.zero_le _) ?_
          exact k h1 g1
        · refine jr_aload rfl rfl ?_
          refine jr_getI rfl rfl ?_
          rw [xm.2.2.1]
          refine jr_ic rfl ?_
          refine jr_icmp_eq rfl (fun c61 => ?_) (fun c61 => ?_)
          · refine jr_iload rfl rfl ?_
            refine jr_if_ne rfl (fun _ => ?_) (fun z => absurd z (by decide))
            refine jr_aload rfl rfl ?_
            refine jr_cv0 (mc' := 0) (ms' := 0) rfl jm_MD_misplaced_n jm_MD_misplaced_f rfl rfl rfl rfl rfl rfl rfl (Nat.zero_le _) (Nat.zero_le _) ?_
            refine eM_misplaced xg xm (fun h1 g1 => ?_)
            refine jr_aload rfl rfl ?_
            refine jr_cv0 (mc' := 0) (ms' := 0) rfl jm_MD_isGood_n jm_MD_isGood_f rfl rfl rfl rfl rfl rfl rfl (Nat.zero_le _) (Nat.zero_le _) ?_
            show jx_W (jm_MD_isGood, _, _, _, _, _, _) _ 0 0 0 [some _] [] _
            refine jr_aload rfl rfl ?_
            refine jr_getI rfl rfl ?_
            refine jr_if_ne rfl (fun _ => ?_) (fun z => absurd z (by rw [g1.2.2.2.1]; unfold jX_kd; split <;> decide))
            refine jr_ic rfl ?_
            refine jr_zret rfl rfl rfl (Nat.zero_le _) (Nat.zero_le _) ?_
            refine jr_if_ne rfl (fun z => absurd (by decide) z) (fun _ => ?_)
            refine jr_ic rfl ?_
            refine jr_zret rfl rfl rfl (Nat.zero_le _) (Nat.zero_le _) ?_
            exact k h1 g1
          · refine jr_iload rfl rfl ?_
            refine jr_if_eq rfl (fun c63 => ?_) (fun c63 => ?_)
            · refine jr_aload rfl rfl ?_
              refine jr_cv0 (mc' := 0) (ms' := 0) rfl jm_MD_misplaced_n jm_MD_misplaced_f rfl rfl rfl rfl rfl rfl rfl (Nat.zero_le _) (Nat.zero_le _) ?_
              refine eM_misplaced xg xm (fun h1 g1 => ?_)
              refine jr_aload rfl rfl ?_
              refine jr_cv0 (mc' := 0) (ms' := 0) rfl jm_MD_isGood_n jm_MD_isGood_f rfl rfl rfl rfl rfl rfl rfl (Nat.zero_le _) (Nat.zero_le _) ?_
              show jx_W (jm_MD_isGood, _, _, _, _, _, _) _ 0 0 0 [some _] [] _
              refine jr_aload rfl rfl ?_
              refine jr_getI rfl rfl ?_
              refine jr_if_ne rfl (fun _ => ?_) (fun z => absurd z (by rw [g1.2.2.2.1]; unfold jX_kd; split <;> decide))
              refine jr_ic rfl ?_
              refine jr_zret rfl rfl rfl (Nat.zero_le _) (Nat.zero_le _) ?_
              refine jr_if_ne rfl (fun z => absurd (by decide) z) (fun _ => ?_)
              refine jr_ic rfl ?_
              refine jr_zret rfl rfl rfl (Nat.zero_le _) (Nat.zero_le _) ?_
              exact k h1 g1
            · refine jr_iload rfl rfl ?_
              refine jr_if_ne rfl (fun _ => ?_) (fun z => absurd z (by decide))
              refine jr_aload rfl rfl ?_
              refine jr_cv0 (mc' := 0) (ms' := 0) rfl jm_MD_misplaced_n jm_MD_misplaced_f rfl rfl rfl rfl rfl rfl rfl (Nat.zero_le _) (Nat.zero_le _) ?_
              refine eM_misplaced xg xm (fun h1 g1 => ?_)
              refine jr_aload rfl rfl ?_
              refine jr_cv0 (mc' := 0) (ms' := 0) rfl jm_MD_isGood_n jm_MD_isGood_f rfl rfl rfl rfl rfl rfl rfl (Nat.zero_le _) (Nat.zero_le _) ?_
              show jx_W (jm_MD_isGood, _, _, _, _, _, _) _ 0 0 0 [some _] [] _
              refine jr_aload rfl rfl ?_
              refine jr_getI rfl rfl ?_
              refine jr_if_ne rfl (fun _ => ?_) (fun z => absurd z (by rw [g1.2.2.2.1]; unfold jX_kd; split <;> decide))
              refine jr_ic rfl ?_
              refine jr_zret rfl rfl rfl (Nat.zero_le _) (Nat.zero_le _) ?_
              refine jr_if_ne rfl (fun z => absurd (by decide) z) (fun _ => ?_)
              refine jr_ic rfl ?_
              refine jr_zret rfl rfl rfl (Nat.zero_le _) (Nat.zero_le _) ?_
              exact k h1 g1
      · refine jr_aload rfl rfl ?_
        refine jr_getI rfl rfl ?_
        rw [xv]
        refine jr_ic rfl ?_
        refine jr_icmp_ne rfl (fun c49 => ?_) (fun c49 => ?_)
        · refine jr_ic rfl ?_
          refine jr_ist5 rfl rfl ?_
          refine jr_iload rfl rfl ?_
          refine jr_if_ne rfl (fun z => absurd (by decide) z) (fun _ => ?_)
          refine jr_iload rfl rfl ?_
          refine jr_if_ne rfl (fun c57 => ?_) (fun c57 => ?_)
          · refine jr_iload rfl rfl ?_
            refine jr_if_ne rfl (fun z => absurd (by decide) z) (fun _ => ?_)
            refine jr_iload rfl rfl ?_
            refine jr_if_ne rfl (fun z => absurd (by decide) z) (fun _ => ?_)
            refine jr_iload rfl rfl ?_
            refine jr_if_eq rfl (fun c69 => ?_) (fun c69 => ?_)
            · exfalso
              have f8 := jn_le (show nI w ≤ nI 3 from c8) (by omega) (by decide)
              have f27 := jf_n c27
              have f45 : ¬ u = 90 := fun z => c45 (by rw [z]; rfl)
              have f49 : ¬ v = 30 := fun z => c49 (by rw [z]; rfl)
              have f57 : ¬ jT_wh (jT_K B sz t) = 0 := fun z => c57 (by rw [z]; rfl)
              have f69 := jf_n c69
              omega
            · refine jr_aload rfl rfl ?_
              refine jr_getI rfl rfl ?_
              refine jr_ic rfl ?_
              refine jr_icmp_ne rfl (fun c73 => ?_) (fun c73 => ?_)
              · exfalso
                have f8 := jn_le (show nI w ≤ nI 3 from c8) (by omega) (by decide)
                have f27 := jf_n c27
                have f45 : ¬ u = 90 := fun z => c45 (by rw [z]; rfl)
                have f49 : ¬ v = 30 := fun z => c49 (by rw [z]; rfl)
                have f57 : ¬ jT_wh (jT_K B sz t) = 0 := fun z => c57 (by rw [z]; rfl)
                have f69 := jf_p c69
                have f73 : ¬ i = 7 := fun z => c73 ((show jh_I h 11 0 46 = nI i from xi).trans (by rw [z]; rfl))
                omega
              · refine jr_aload rfl rfl ?_
                refine jr_cv0 (mc' := 0) (ms' := 0) rfl jm_MD_misplaced_n jm_MD_misplaced_f rfl rfl rfl rfl rfl rfl rfl (Nat.zero_le _) (Nat.zero_le _) ?_
                refine eM_misplaced xg xm (fun h1 g1 => ?_)
                refine jr_aload rfl rfl ?_
                refine jr_cv0 (mc' := 0) (ms' := 0) rfl jm_MD_isGood_n jm_MD_isGood_f rfl rfl rfl rfl rfl rfl rfl (Nat.zero_le _) (Nat.zero_le _) ?_
                show jx_W (jm_MD_isGood, _, _, _, _, _, _) _ 0 0 0 [some _] [] _
                refine jr_aload rfl rfl ?_
                refine jr_getI rfl rfl ?_
                refine jr_if_ne rfl (fun _ => ?_) (fun z => absurd z (by rw [g1.2.2.2.1]; unfold jX_kd; split <;> decide))
                refine jr_ic rfl ?_
                refine jr_zret rfl rfl rfl (Nat.zero_le _) (Nat.zero_le _) ?_
                refine jr_if_ne rfl (fun z => absurd (by decide) z) (fun _ => ?_)
                refine jr_ic rfl ?_
                refine jr_zret rfl rfl rfl (Nat.zero_le _) (Nat.zero_le _) ?_
                exact k h1 g1
          · refine jr_aload rfl rfl ?_
            refine jr_getI rfl rfl ?_
            rw [xm.2.2.1]
            refine jr_ic rfl ?_
            refine jr_icmp_eq rfl (fun c61 => ?_) (fun c61 => ?_)
            · refine jr_iload rfl rfl ?_
              refine jr_if_ne rfl (fun z => absurd (by decide) z) (fun _ => ?_)
              refine jr_iload rfl rfl ?_
              refine jr_if_ne rfl (fun z => absurd (by decide) z) (fun _ => ?_)
              refine jr_iload rfl rfl ?_
              refine jr_if_eq rfl (fun c69 => ?_) (fun c69 => ?_)
              · exfalso
                have f8 := jn_le (show nI w ≤ nI 3 from c8) (by omega) (by decide)
                have f27 := jf_n c27
                have f45 : ¬ u = 90 := fun z => c45 (by rw [z]; rfl)
                have f49 : ¬ v = 30 := fun z => c49 (by rw [z]; rfl)
                have f57 : jT_wh (jT_K B sz t) = 0 := jn_eq (show nI (jT_wh (jT_K B sz t)) = nI 0 from c57) (by have := jT_wh_lt (jT_K B sz t); omega) (by decide)
                have f61 : jT_K B sz t = 2 := jT_mt4.mp c61
                have f69 := jf_n c69
                omega
              · refine jr_aload rfl rfl ?_
                refine jr_getI rfl rfl ?_
                refine jr_ic rfl ?_
                refine jr_icmp_ne rfl (fun c73 => ?_) (fun c73 => ?_)
                · exfalso
                  have f8 := jn_le (show nI w ≤ nI 3 from c8) (by omega) (by decide)
                  have f27 := jf_n c27
                  have f45 : ¬ u = 90 := fun z => c45 (by rw [z]; rfl)
                  have f49 : ¬ v = 30 := fun z => c49 (by rw [z]; rfl)
                  have f57 : jT_wh (jT_K B sz t) = 0 := jn_eq (show nI (jT_wh (jT_K B sz t)) = nI 0 from c57) (by have := jT_wh_lt (jT_K B sz t); omega) (by decide)
                  have f61 : jT_K B sz t = 2 := jT_mt4.mp c61
                  have f69 := jf_p c69
                  have f73 : ¬ i = 7 := fun z => c73 ((show jh_I h 11 0 46 = nI i from xi).trans (by rw [z]; rfl))
                  omega
                · refine jr_aload rfl rfl ?_
                  refine jr_cv0 (mc' := 0) (ms' := 0) rfl jm_MD_misplaced_n jm_MD_misplaced_f rfl rfl rfl rfl rfl rfl rfl (Nat.zero_le _) (Nat.zero_le _) ?_
                  refine eM_misplaced xg xm (fun h1 g1 => ?_)
                  refine jr_aload rfl rfl ?_
                  refine jr_cv0 (mc' := 0) (ms' := 0) rfl jm_MD_isGood_n jm_MD_isGood_f rfl rfl rfl rfl rfl rfl rfl (Nat.zero_le _) (Nat.zero_le _) ?_
                  show jx_W (jm_MD_isGood, _, _, _, _, _, _) _ 0 0 0 [some _] [] _
                  refine jr_aload rfl rfl ?_
                  refine jr_getI rfl rfl ?_
                  refine jr_if_ne rfl (fun _ => ?_) (fun z => absurd z (by rw [g1.2.2.2.1]; unfold jX_kd; split <;> decide))
                  refine jr_ic rfl ?_
                  refine jr_zret rfl rfl rfl (Nat.zero_le _) (Nat.zero_le _) ?_
                  refine jr_if_ne rfl (fun z => absurd (by decide) z) (fun _ => ?_)
                  refine jr_ic rfl ?_
                  refine jr_zret rfl rfl rfl (Nat.zero_le _) (Nat.zero_le _) ?_
                  exact k h1 g1
            · refine jr_iload rfl rfl ?_
              refine jr_if_eq rfl (fun c63 => ?_) (fun c63 => ?_)
              · refine jr_aload rfl rfl ?_
                refine jr_cv0 (mc' := 0) (ms' := 0) rfl jm_MD_misplaced_n jm_MD_misplaced_f rfl rfl rfl rfl rfl rfl rfl (Nat.zero_le _) (Nat.zero_le _) ?_
                refine eM_misplaced xg xm (fun h1 g1 => ?_)
                refine jr_aload rfl rfl ?_
                refine jr_cv0 (mc' := 0) (ms' := 0) rfl jm_MD_isGood_n jm_MD_isGood_f rfl rfl rfl rfl rfl rfl rfl (Nat.zero_le _) (Nat.zero_le _) ?_
                show jx_W (jm_MD_isGood, _, _, _, _, _, _) _ 0 0 0 [some _] [] _
                refine jr_aload rfl rfl ?_
                refine jr_getI rfl rfl ?_
                refine jr_if_ne rfl (fun _ => ?_) (fun z => absurd z (by rw [g1.2.2.2.1]; unfold jX_kd; split <;> decide))
                refine jr_ic rfl ?_
                refine jr_zret rfl rfl rfl (Nat.zero_le _) (Nat.zero_le _) ?_
                refine jr_if_ne rfl (fun z => absurd (by decide) z) (fun _ => ?_)
                refine jr_ic rfl ?_
                refine jr_zret rfl rfl rfl (Nat.zero_le _) (Nat.zero_le _) ?_
                exact k h1 g1
              · refine jr_iload rfl rfl ?_
                refine jr_if_ne rfl (fun z => absurd (by decide) z) (fun _ => ?_)
                refine jr_iload rfl rfl ?_
                refine jr_if_ne rfl (fun z => absurd (by decide) z) (fun _ => ?_)
                refine jr_iload rfl rfl ?_
                refine jr_if_eq rfl (fun c69 => ?_) (fun c69 => ?_)
                · exfalso
                  have f8 := jn_le (show nI w ≤ nI 3 from c8) (by omega) (by decide)
                  have f27 := jf_n c27
                  have f45 : ¬ u = 90 := fun z => c45 (by rw [z]; rfl)
                  have f49 : ¬ v = 30 := fun z => c49 (by rw [z]; rfl)
                  have f57 : jT_wh (jT_K B sz t) = 0 := jn_eq (show nI (jT_wh (jT_K B sz t)) = nI 0 from c57) (by have := jT_wh_lt (jT_K B sz t); omega) (by decide)
                  have f61 : ¬ jT_K B sz t = 2 := fun z => c61 (jT_mt4.mpr z)
                  have f63 := jf_p c63
                  have f69 := jf_n c69
                  omega
                · refine jr_aload rfl rfl ?_
                  refine jr_getI rfl rfl ?_
                  refine jr_ic rfl ?_
                  refine jr_icmp_ne rfl (fun c73 => ?_) (fun c73 => ?_)
                  · exfalso
                    have f8 := jn_le (show nI w ≤ nI 3 from c8) (by omega) (by decide)
                    have f27 := jf_n c27
                    have f45 : ¬ u = 90 := fun z => c45 (by rw [z]; rfl)
                    have f49 : ¬ v = 30 := fun z => c49 (by rw [z]; rfl)
                    have f57 : jT_wh (jT_K B sz t) = 0 := jn_eq (show nI (jT_wh (jT_K B sz t)) = nI 0 from c57) (by have := jT_wh_lt (jT_K B sz t); omega) (by decide)
                    have f61 : ¬ jT_K B sz t = 2 := fun z => c61 (jT_mt4.mpr z)
                    have f63 := jf_p c63
                    have f69 := jf_p c69
                    have f73 : ¬ i = 7 := fun z => c73 ((show jh_I h 11 0 46 = nI i from xi).trans (by rw [z]; rfl))
                    omega
                  · refine jr_aload rfl rfl ?_
                    refine jr_cv0 (mc' := 0) (ms' := 0) rfl jm_MD_misplaced_n jm_MD_misplaced_f rfl rfl rfl rfl rfl rfl rfl (Nat.zero_le _) (Nat.zero_le _) ?_
                    refine eM_misplaced xg xm (fun h1 g1 => ?_)
                    refine jr_aload rfl rfl ?_
                    refine jr_cv0 (mc' := 0) (ms' := 0) rfl jm_MD_isGood_n jm_MD_isGood_f rfl rfl rfl rfl rfl rfl rfl (Nat.zero_le _) (Nat.zero_le _) ?_
                    show jx_W (jm_MD_isGood, _, _, _, _, _, _) _ 0 0 0 [some _] [] _
                    refine jr_aload rfl rfl ?_
                    refine jr_getI rfl rfl ?_
                    refine jr_if_ne rfl (fun _ => ?_) (fun z => absurd z (by rw [g1.2.2.2.1]; unfold jX_kd; split <;> decide))
                    refine jr_ic rfl ?_
                    refine jr_zret rfl rfl rfl (Nat.zero_le _) (Nat.zero_le _) ?_
                    refine jr_if_ne rfl (fun z => absurd (by decide) z) (fun _ => ?_)
                    refine jr_ic rfl ?_
                    refine jr_zret rfl rfl rfl (Nat.zero_le _) (Nat.zero_le _) ?_
                    exact k h1 g1
        · refine jr_ic rfl ?_
          refine jr_goto rfl ?_
          refine jr_ist5 rfl rfl ?_
          refine jr_iload rfl rfl ?_
          refine jr_if_ne rfl (fun z => absurd (by decide) z) (fun _ => ?_)
          refine jr_iload rfl rfl ?_
          refine jr_if_ne rfl (fun c57 => ?_) (fun c57 => ?_)
          · refine jr_iload rfl rfl ?_
            refine jr_if_ne rfl (fun _ => ?_) (fun z => absurd z (by decide))
            refine jr_aload rfl rfl ?_
            refine jr_cv0 (mc' := 0) (ms' := 0) rfl jm_MD_misplaced_n jm_MD_misplaced_f rfl rfl rfl rfl rfl rfl rfl (Nat.zero_le _) (Nat.zero_le _) ?_
            refine eM_misplaced xg xm (fun h1 g1 => ?_)
            refine jr_aload rfl rfl ?_
            refine jr_cv0 (mc' := 0) (ms' := 0) rfl jm_MD_isGood_n jm_MD_isGood_f rfl rfl rfl rfl rfl rfl rfl (Nat.zero_le _) (Nat.zero_le _) ?_
            show jx_W (jm_MD_isGood, _, _, _, _, _, _) _ 0 0 0 [some _] [] _
            refine jr_aload rfl rfl ?_
            refine jr_getI rfl rfl ?_
            refine jr_if_ne rfl (fun _ => ?_) (fun z => absurd z (by rw [g1.2.2.2.1]; unfold jX_kd; split <;> decide))
            refine jr_ic rfl ?_
            refine jr_zret rfl rfl rfl (Nat.zero_le _) (Nat.zero_le _) ?_
            refine jr_if_ne rfl (fun z => absurd (by decide) z) (fun _ => ?_)
            refine jr_ic rfl ?_
            refine jr_zret rfl rfl rfl (Nat.zero_le _) (Nat.zero_le _) ?_
            exact k h1 g1
          · refine jr_aload rfl rfl ?_
            refine jr_getI rfl rfl ?_
            rw [xm.2.2.1]
            refine jr_ic rfl ?_
            refine jr_icmp_eq rfl (fun c61 => ?_) (fun c61 => ?_)
            · refine jr_iload rfl rfl ?_
              refine jr_if_ne rfl (fun _ => ?_) (fun z => absurd z (by decide))
              refine jr_aload rfl rfl ?_
              refine jr_cv0 (mc' := 0) (ms' := 0) rfl jm_MD_misplaced_n jm_MD_misplaced_f rfl rfl rfl rfl rfl rfl rfl (Nat.zero_le _) (Nat.zero_le _) ?_
              refine eM_misplaced xg xm (fun h1 g1 => ?_)
              refine jr_aload rfl rfl ?_
              refine jr_cv0 (mc' := 0) (ms' := 0) rfl jm_MD_isGood_n jm_MD_isGood_f rfl rfl rfl rfl rfl rfl rfl (Nat.zero_le _) (Nat.zero_le _) ?_
              show jx_W (jm_MD_isGood, _, _, _, _, _, _) _ 0 0 0 [some _] [] _
              refine jr_aload rfl rfl ?_
              refine jr_getI rfl rfl ?_
              refine jr_if_ne rfl (fun _ => ?_) (fun z => absurd z (by rw [g1.2.2.2.1]; unfold jX_kd; split <;> decide))
              refine jr_ic rfl ?_
              refine jr_zret rfl rfl rfl (Nat.zero_le _) (Nat.zero_le _) ?_
              refine jr_if_ne rfl (fun z => absurd (by decide) z) (fun _ => ?_)
              refine jr_ic rfl ?_
              refine jr_zret rfl rfl rfl (Nat.zero_le _) (Nat.zero_le _) ?_
              exact k h1 g1
            · refine jr_iload rfl rfl ?_
              refine jr_if_eq rfl (fun c63 => ?_) (fun c63 => ?_)
              · refine jr_aload rfl rfl ?_
                refine jr_cv0 (mc' := 0) (ms' := 0) rfl jm_MD_misplaced_n jm_MD_misplaced_f rfl rfl rfl rfl rfl rfl rfl (Nat.zero_le _) (Nat.zero_le _) ?_
                refine eM_misplaced xg xm (fun h1 g1 => ?_)
                refine jr_aload rfl rfl ?_
                refine jr_cv0 (mc' := 0) (ms' := 0) rfl jm_MD_isGood_n jm_MD_isGood_f rfl rfl rfl rfl rfl rfl rfl (Nat.zero_le _) (Nat.zero_le _) ?_
                show jx_W (jm_MD_isGood, _, _, _, _, _, _) _ 0 0 0 [some _] [] _
                refine jr_aload rfl rfl ?_
                refine jr_getI rfl rfl ?_
                refine jr_if_ne rfl (fun _ => ?_) (fun z => absurd z (by rw [g1.2.2.2.1]; unfold jX_kd; split <;> decide))
                refine jr_ic rfl ?_
                refine jr_zret rfl rfl rfl (Nat.zero_le _) (Nat.zero_le _) ?_
                refine jr_if_ne rfl (fun z => absurd (by decide) z) (fun _ => ?_)
                refine jr_ic rfl ?_
                refine jr_zret rfl rfl rfl (Nat.zero_le _) (Nat.zero_le _) ?_
                exact k h1 g1
              · refine jr_iload rfl rfl ?_
                refine jr_if_ne rfl (fun _ => ?_) (fun z => absurd z (by decide))
                refine jr_aload rfl rfl ?_
                refine jr_cv0 (mc' := 0) (ms' := 0) rfl jm_MD_misplaced_n jm_MD_misplaced_f rfl rfl rfl rfl rfl rfl rfl (Nat.zero_le _) (Nat.zero_le _) ?_
                refine eM_misplaced xg xm (fun h1 g1 => ?_)
                refine jr_aload rfl rfl ?_
                refine jr_cv0 (mc' := 0) (ms' := 0) rfl jm_MD_isGood_n jm_MD_isGood_f rfl rfl rfl rfl rfl rfl rfl (Nat.zero_le _) (Nat.zero_le _) ?_
                show jx_W (jm_MD_isGood, _, _, _, _, _, _) _ 0 0 0 [some _] [] _
                refine jr_aload rfl rfl ?_
                refine jr_getI rfl rfl ?_
                refine jr_if_ne rfl (fun _ => ?_) (fun z => absurd z (by rw [g1.2.2.2.1]; unfold jX_kd; split <;> decide))
                refine jr_ic rfl ?_
                refine jr_zret rfl rfl rfl (Nat.zero_le _) (Nat.zero_le _) ?_
                refine jr_if_ne rfl (fun z => absurd (by decide) z) (fun _ => ?_)
                refine jr_ic rfl ?_
                refine jr_zret rfl rfl rfl (Nat.zero_le _) (Nat.zero_le _) ?_
                exact k h1 g1
    · refine jr_ic rfl ?_
      refine jr_goto rfl ?_
      refine jr_ist2 rfl rfl ?_
      refine jr_aload rfl rfl ?_
      refine jr_ic rfl ?_
      refine jr_cv1 (mc' := 0) (ms' := 0) rfl jm_MD_isSignHere_n jm_MD_isSignHere_f rfl rfl rfl rfl rfl rfl rfl (Nat.zero_le _) (Nat.zero_le _) ?_
      refine eM_isSignHere (s := 40) xt xm (by decide) ?_
      refine jr_ist3 rfl rfl ?_
      refine jr_aload rfl rfl ?_
      refine jr_cv0 (mc' := 0) (ms' := 0) rfl jm_MD_wordHere_n jm_MD_wordHere_f rfl rfl rfl rfl rfl rfl rfl (Nat.zero_le _) (Nat.zero_le _) ?_
      refine eM_wordHere xm ?_
      refine jr_ist4 rfl rfl ?_
      refine jr_aload rfl rfl ?_
      refine jr_getR rfl rfl rfl rfl (Or.inl rfl) ?_
      refine jr_aload rfl rfl ?_
      refine jr_getI rfl rfl ?_
      refine jr_iald (len := 2) rfl rfl xb (by omega) ?_
      rw [xu]
      refine jr_ic rfl ?_
      refine jr_icmp_eq rfl (fun c45 => ?_) (fun c45 => ?_)
      · refine jr_ic rfl ?_
        refine jr_goto rfl ?_
        refine jr_ist5 rfl rfl ?_
        refine jr_iload rfl rfl ?_
        refine jr_if_ne rfl (fun _ => ?_) (fun z => absurd z (by decide))
        refine jr_iload rfl rfl ?_
        refine jr_if_ne rfl (fun _ => ?_) (fun z => absurd z (by decide))
        refine jr_aload rfl rfl ?_
        refine jr_getI rfl rfl ?_
        refine jr_ic rfl ?_
        refine jr_icmp_ne rfl (fun c73 => ?_) (fun c73 => ?_)
        · exfalso
          have f8 := jn_le (show nI w ≤ nI 3 from c8) (by omega) (by decide)
          have f27 := jf_p c27
          have f45 := jn_eq (show nI u = nI 90 from c45) (by omega) (by decide)
          have f73 : ¬ i = 7 := fun z => c73 ((show jh_I h 11 0 46 = nI i from xi).trans (by rw [z]; rfl))
          omega
        · refine jr_aload rfl rfl ?_
          refine jr_cv0 (mc' := 0) (ms' := 0) rfl jm_MD_misplaced_n jm_MD_misplaced_f rfl rfl rfl rfl rfl rfl rfl (Nat.zero_le _) (Nat.zero_le _) ?_
          refine eM_misplaced xg xm (fun h1 g1 => ?_)
          refine jr_aload rfl rfl ?_
          refine jr_cv0 (mc' := 0) (ms' := 0) rfl jm_MD_isGood_n jm_MD_isGood_f rfl rfl rfl rfl rfl rfl rfl (Nat.zero_le _) (Nat.zero_le _) ?_
          show jx_W (jm_MD_isGood, _, _, _, _, _, _) _ 0 0 0 [some _] [] _
          refine jr_aload rfl rfl ?_
          refine jr_getI rfl rfl ?_
          refine jr_if_ne rfl (fun _ => ?_) (fun z => absurd z (by rw [g1.2.2.2.1]; unfold jX_kd; split <;> decide))
          refine jr_ic rfl ?_
          refine jr_zret rfl rfl rfl (Nat.zero_le _) (Nat.zero_le _) ?_
          refine jr_if_ne rfl (fun z => absurd (by decide) z) (fun _ => ?_)
          refine jr_ic rfl ?_
          refine jr_zret rfl rfl rfl (Nat.zero_le _) (Nat.zero_le _) ?_
          exact k h1 g1
      · refine jr_aload rfl rfl ?_
        refine jr_getI rfl rfl ?_
        rw [xv]
        refine jr_ic rfl ?_
        refine jr_icmp_ne rfl (fun c49 => ?_) (fun c49 => ?_)
        · refine jr_ic rfl ?_
          refine jr_ist5 rfl rfl ?_
          refine jr_iload rfl rfl ?_
          refine jr_if_ne rfl (fun _ => ?_) (fun z => absurd z (by decide))
          refine jr_iload rfl rfl ?_
          refine jr_if_ne rfl (fun _ => ?_) (fun z => absurd z (by decide))
          refine jr_aload rfl rfl ?_
          refine jr_getI rfl rfl ?_
          refine jr_ic rfl ?_
          refine jr_icmp_ne rfl (fun c73 => ?_) (fun c73 => ?_)
          · exfalso
            have f8 := jn_le (show nI w ≤ nI 3 from c8) (by omega) (by decide)
            have f27 := jf_p c27
            have f45 : ¬ u = 90 := fun z => c45 (by rw [z]; rfl)
            have f49 : ¬ v = 30 := fun z => c49 (by rw [z]; rfl)
            have f73 : ¬ i = 7 := fun z => c73 ((show jh_I h 11 0 46 = nI i from xi).trans (by rw [z]; rfl))
            omega
          · refine jr_aload rfl rfl ?_
            refine jr_cv0 (mc' := 0) (ms' := 0) rfl jm_MD_misplaced_n jm_MD_misplaced_f rfl rfl rfl rfl rfl rfl rfl (Nat.zero_le _) (Nat.zero_le _) ?_
            refine eM_misplaced xg xm (fun h1 g1 => ?_)
            refine jr_aload rfl rfl ?_
            refine jr_cv0 (mc' := 0) (ms' := 0) rfl jm_MD_isGood_n jm_MD_isGood_f rfl rfl rfl rfl rfl rfl rfl (Nat.zero_le _) (Nat.zero_le _) ?_
            show jx_W (jm_MD_isGood, _, _, _, _, _, _) _ 0 0 0 [some _] [] _
            refine jr_aload rfl rfl ?_
            refine jr_getI rfl rfl ?_
            refine jr_if_ne rfl (fun _ => ?_) (fun z => absurd z (by rw [g1.2.2.2.1]; unfold jX_kd; split <;> decide))
            refine jr_ic rfl ?_
            refine jr_zret rfl rfl rfl (Nat.zero_le _) (Nat.zero_le _) ?_
            refine jr_if_ne rfl (fun z => absurd (by decide) z) (fun _ => ?_)
            refine jr_ic rfl ?_
            refine jr_zret rfl rfl rfl (Nat.zero_le _) (Nat.zero_le _) ?_
            exact k h1 g1
        · refine jr_ic rfl ?_
          refine jr_goto rfl ?_
          refine jr_ist5 rfl rfl ?_
          refine jr_iload rfl rfl ?_
          refine jr_if_ne rfl (fun _ => ?_) (fun z => absurd z (by decide))
          refine jr_iload rfl rfl ?_
          refine jr_if_ne rfl (fun _ => ?_) (fun z => absurd z (by decide))
          refine jr_aload rfl rfl ?_
          refine jr_getI rfl rfl ?_
          refine jr_ic rfl ?_
          refine jr_icmp_ne rfl (fun c73 => ?_) (fun c73 => ?_)
          · exfalso
            have f8 := jn_le (show nI w ≤ nI 3 from c8) (by omega) (by decide)
            have f27 := jf_p c27
            have f45 : ¬ u = 90 := fun z => c45 (by rw [z]; rfl)
            have f49 := jn_eq (show nI v = nI 30 from c49) (by omega) (by decide)
            have f73 : ¬ i = 7 := fun z => c73 ((show jh_I h 11 0 46 = nI i from xi).trans (by rw [z]; rfl))
            omega
          · refine jr_aload rfl rfl ?_
            refine jr_cv0 (mc' := 0) (ms' := 0) rfl jm_MD_misplaced_n jm_MD_misplaced_f rfl rfl rfl rfl rfl rfl rfl (Nat.zero_le _) (Nat.zero_le _) ?_
            refine eM_misplaced xg xm (fun h1 g1 => ?_)
            refine jr_aload rfl rfl ?_
            refine jr_cv0 (mc' := 0) (ms' := 0) rfl jm_MD_isGood_n jm_MD_isGood_f rfl rfl rfl rfl rfl rfl rfl (Nat.zero_le _) (Nat.zero_le _) ?_
            show jx_W (jm_MD_isGood, _, _, _, _, _, _) _ 0 0 0 [some _] [] _
            refine jr_aload rfl rfl ?_
            refine jr_getI rfl rfl ?_
            refine jr_if_ne rfl (fun _ => ?_) (fun z => absurd z (by rw [g1.2.2.2.1]; unfold jX_kd; split <;> decide))
            refine jr_ic rfl ?_
            refine jr_zret rfl rfl rfl (Nat.zero_le _) (Nat.zero_le _) ?_
            refine jr_if_ne rfl (fun z => absurd (by decide) z) (fun _ => ?_)
            refine jr_ic rfl ?_
            refine jr_zret rfl rfl rfl (Nat.zero_le _) (Nat.zero_le _) ?_
            exact k h1 g1
  · refine jr_aload rfl rfl ?_
    refine jr_getR rfl rfl rfl rfl (Or.inl rfl) ?_
    refine jr_aload rfl rfl ?_
    refine jr_getI rfl rfl ?_
    refine jr_ic rfl ?_
    refine jr_isub rfl ?_
    refine jr_iald (len := 90) rfl rfl (jn_sub xl2 (show _ = nI 1 from rfl) (by omega)) (by omega) ?_
    rw [show jh_I h 95 0 (P.length + 1 - 1) = nI w from xP.1]
    refine jr_ic rfl ?_
    refine jr_icmp_lt rfl (fun c17 => ?_) (fun c17 => ?_)
    · refine jr_ic rfl ?_
      refine jr_ist1 rfl rfl ?_
      refine jr_iload rfl rfl ?_
      refine jr_if_eq rfl (fun _ => ?_) (fun z => absurd (by decide) z)
      refine jr_ic rfl ?_
      refine jr_ist2 rfl rfl ?_
      refine jr_aload rfl rfl ?_
      refine jr_ic rfl ?_
      refine jr_cv1 (mc' := 0) (ms' := 0) rfl jm_MD_isSignHere_n jm_MD_isSignHere_f rfl rfl rfl rfl rfl rfl rfl (Nat.zero_le _) (Nat.zero_le _) ?_
      refine eM_isSignHere (s := 40) xt xm (by decide) ?_
      refine jr_ist3 rfl rfl ?_
      refine jr_aload rfl rfl ?_
      refine jr_cv0 (mc' := 0) (ms' := 0) rfl jm_MD_wordHere_n jm_MD_wordHere_f rfl rfl rfl rfl rfl rfl rfl (Nat.zero_le _) (Nat.zero_le _) ?_
      refine eM_wordHere xm ?_
      refine jr_ist4 rfl rfl ?_
      refine jr_aload rfl rfl ?_
      refine jr_getR rfl rfl rfl rfl (Or.inl rfl) ?_
      refine jr_aload rfl rfl ?_
      refine jr_getI rfl rfl ?_
      refine jr_iald (len := 2) rfl rfl xb (by omega) ?_
      rw [xu]
      refine jr_ic rfl ?_
      refine jr_icmp_eq rfl (fun c45 => ?_) (fun c45 => ?_)
      · refine jr_ic rfl ?_
        refine jr_goto rfl ?_
        refine jr_ist5 rfl rfl ?_
        refine jr_iload rfl rfl ?_
        refine jr_if_ne rfl (fun z => absurd (by decide) z) (fun _ => ?_)
        refine jr_iload rfl rfl ?_
        refine jr_if_ne rfl (fun c57 => ?_) (fun c57 => ?_)
        · refine jr_iload rfl rfl ?_
          refine jr_if_ne rfl (fun _ => ?_) (fun z => absurd z (by decide))
          refine jr_aload rfl rfl ?_
          refine jr_cv0 (mc' := 0) (ms' := 0) rfl jm_MD_misplaced_n jm_MD_misplaced_f rfl rfl rfl rfl rfl rfl rfl (Nat.zero_le _) (Nat.zero_le _) ?_
          refine eM_misplaced xg xm (fun h1 g1 => ?_)
          refine jr_aload rfl rfl ?_
          refine jr_cv0 (mc' := 0) (ms' := 0) rfl jm_MD_isGood_n jm_MD_isGood_f rfl rfl rfl rfl rfl rfl rfl (Nat.zero_le _) (Nat.zero_le _) ?_
          show jx_W (jm_MD_isGood, _, _, _, _, _, _) _ 0 0 0 [some _] [] _
          refine jr_aload rfl rfl ?_
          refine jr_getI rfl rfl ?_
          refine jr_if_ne rfl (fun _ => ?_) (fun z => absurd z (by rw [g1.2.2.2.1]; unfold jX_kd; split <;> decide))
          refine jr_ic rfl ?_
          refine jr_zret rfl rfl rfl (Nat.zero_le _) (Nat.zero_le _) ?_
          refine jr_if_ne rfl (fun z => absurd (by decide) z) (fun _ => ?_)
          refine jr_ic rfl ?_
          refine jr_zret rfl rfl rfl (Nat.zero_le _) (Nat.zero_le _) ?_
          exact k h1 g1
        · refine jr_aload rfl rfl ?_
          refine jr_getI rfl rfl ?_
          rw [xm.2.2.1]
          refine jr_ic rfl ?_
          refine jr_icmp_eq rfl (fun c61 => ?_) (fun c61 => ?_)
          · refine jr_iload rfl rfl ?_
            refine jr_if_ne rfl (fun _ => ?_) (fun z => absurd z (by decide))
            refine jr_aload rfl rfl ?_
            refine jr_cv0 (mc' := 0) (ms' := 0) rfl jm_MD_misplaced_n jm_MD_misplaced_f rfl rfl rfl rfl rfl rfl rfl (Nat.zero_le _) (Nat.zero_le _) ?_
            refine eM_misplaced xg xm (fun h1 g1 => ?_)
            refine jr_aload rfl rfl ?_
            refine jr_cv0 (mc' := 0) (ms' := 0) rfl jm_MD_isGood_n jm_MD_isGood_f rfl rfl rfl rfl rfl rfl rfl (Nat.zero_le _) (Nat.zero_le _) ?_
            show jx_W (jm_MD_isGood, _, _, _, _, _, _) _ 0 0 0 [some _] [] _
            refine jr_aload rfl rfl ?_
            refine jr_getI rfl rfl ?_
            refine jr_if_ne rfl (fun _ => ?_) (fun z => absurd z (by rw [g1.2.2.2.1]; unfold jX_kd; split <;> decide))
            refine jr_ic rfl ?_
            refine jr_zret rfl rfl rfl (Nat.zero_le _) (Nat.zero_le _) ?_
            refine jr_if_ne rfl (fun z => absurd (by decide) z) (fun _ => ?_)
            refine jr_ic rfl ?_
            refine jr_zret rfl rfl rfl (Nat.zero_le _) (Nat.zero_le _) ?_
            exact k h1 g1
          · refine jr_iload rfl rfl ?_
            refine jr_if_eq rfl (fun c63 => ?_) (fun c63 => ?_)
            · refine jr_aload rfl rfl ?_
              refine jr_cv0 (mc' := 0) (ms' := 0) rfl jm_MD_misplaced_n jm_MD_misplaced_f rfl rfl rfl rfl rfl rfl rfl (Nat.zero_le _) (Nat.zero_le _) ?_
              refine eM_misplaced xg xm (fun h1 g1 => ?_)
              refine jr_aload rfl rfl ?_
              refine jr_cv0 (mc' := 0) (ms' := 0) rfl jm_MD_isGood_n jm_MD_isGood_f rfl rfl rfl rfl rfl rfl rfl (Nat.zero_le _) (Nat.zero_le _) ?_
              show jx_W (jm_MD_isGood, _, _, _, _, _, _) _ 0 0 0 [some _] [] _
              refine jr_aload rfl rfl ?_
              refine jr_getI rfl rfl ?_
              refine jr_if_ne rfl (fun _ => ?_) (fun z => absurd z (by rw [g1.2.2.2.1]; unfold jX_kd; split <;> decide))
              refine jr_ic rfl ?_
              refine jr_zret rfl rfl rfl (Nat.zero_le _) (Nat.zero_le _) ?_
              refine jr_if_ne rfl (fun z => absurd (by decide) z) (fun _ => ?_)
              refine jr_ic rfl ?_
              refine jr_zret rfl rfl rfl (Nat.zero_le _) (Nat.zero_le _) ?_
              exact k h1 g1
            · refine jr_iload rfl rfl ?_
              refine jr_if_ne rfl (fun _ => ?_) (fun z => absurd z (by decide))
              refine jr_aload rfl rfl ?_
              refine jr_cv0 (mc' := 0) (ms' := 0) rfl jm_MD_misplaced_n jm_MD_misplaced_f rfl rfl rfl rfl rfl rfl rfl (Nat.zero_le _) (Nat.zero_le _) ?_
              refine eM_misplaced xg xm (fun h1 g1 => ?_)
              refine jr_aload rfl rfl ?_
              refine jr_cv0 (mc' := 0) (ms' := 0) rfl jm_MD_isGood_n jm_MD_isGood_f rfl rfl rfl rfl rfl rfl rfl (Nat.zero_le _) (Nat.zero_le _) ?_
              show jx_W (jm_MD_isGood, _, _, _, _, _, _) _ 0 0 0 [some _] [] _
              refine jr_aload rfl rfl ?_
              refine jr_getI rfl rfl ?_
              refine jr_if_ne rfl (fun _ => ?_) (fun z => absurd z (by rw [g1.2.2.2.1]; unfold jX_kd; split <;> decide))
              refine jr_ic rfl ?_
              refine jr_zret rfl rfl rfl (Nat.zero_le _) (Nat.zero_le _) ?_
              refine jr_if_ne rfl (fun z => absurd (by decide) z) (fun _ => ?_)
              refine jr_ic rfl ?_
              refine jr_zret rfl rfl rfl (Nat.zero_le _) (Nat.zero_le _) ?_
              exact k h1 g1
      · refine jr_aload rfl rfl ?_
        refine jr_getI rfl rfl ?_
        rw [xv]
        refine jr_ic rfl ?_
        refine jr_icmp_ne rfl (fun c49 => ?_) (fun c49 => ?_)
        · refine jr_ic rfl ?_
          refine jr_ist5 rfl rfl ?_
          refine jr_iload rfl rfl ?_
          refine jr_if_ne rfl (fun z => absurd (by decide) z) (fun _ => ?_)
          refine jr_iload rfl rfl ?_
          refine jr_if_ne rfl (fun c57 => ?_) (fun c57 => ?_)
          · refine jr_iload rfl rfl ?_
            refine jr_if_ne rfl (fun z => absurd (by decide) z) (fun _ => ?_)
            refine jr_iload rfl rfl ?_
            refine jr_if_ne rfl (fun z => absurd (by decide) z) (fun _ => ?_)
            refine jr_iload rfl rfl ?_
            refine jr_if_eq rfl (fun c69 => ?_) (fun c69 => ?_)
            · exfalso
              have f8 := jn_nle (show ¬ nI w ≤ nI 3 from c8) (by omega) (by decide)
              have f17 := jn_lt (show nI w < nI 7 from c17) (by omega) (by decide)
              have f45 : ¬ u = 90 := fun z => c45 (by rw [z]; rfl)
              have f49 : ¬ v = 30 := fun z => c49 (by rw [z]; rfl)
              have f57 : ¬ jT_wh (jT_K B sz t) = 0 := fun z => c57 (by rw [z]; rfl)
              have f69 := jf_n c69
              omega
            · refine jr_aload rfl rfl ?_
              refine jr_getI rfl rfl ?_
              refine jr_ic rfl ?_
              refine jr_icmp_ne rfl (fun c73 => ?_) (fun c73 => ?_)
              · exfalso
                have f8 := jn_nle (show ¬ nI w ≤ nI 3 from c8) (by omega) (by decide)
                have f17 := jn_lt (show nI w < nI 7 from c17) (by omega) (by decide)
                have f45 : ¬ u = 90 := fun z => c45 (by rw [z]; rfl)
                have f49 : ¬ v = 30 := fun z => c49 (by rw [z]; rfl)
                have f57 : ¬ jT_wh (jT_K B sz t) = 0 := fun z => c57 (by rw [z]; rfl)
                have f69 := jf_p c69
                have f73 : ¬ i = 7 := fun z => c73 ((show jh_I h 11 0 46 = nI i from xi).trans (by rw [z]; rfl))
                omega
              · refine jr_aload rfl rfl ?_
                refine jr_cv0 (mc' := 0) (ms' := 0) rfl jm_MD_misplaced_n jm_MD_misplaced_f rfl rfl rfl rfl rfl rfl rfl (Nat.zero_le _) (Nat.zero_le _) ?_
                refine eM_misplaced xg xm (fun h1 g1 => ?_)
                refine jr_aload rfl rfl ?_
                refine jr_cv0 (mc' := 0) (ms' := 0) rfl jm_MD_isGood_n jm_MD_isGood_f rfl rfl rfl rfl rfl rfl rfl (Nat.zero_le _) (Nat.zero_le _) ?_
                show jx_W (jm_MD_isGood, _, _, _, _, _, _) _ 0 0 0 [some _] [] _
                refine jr_aload rfl rfl ?_
                refine jr_getI rfl rfl ?_
                refine jr_if_ne rfl (fun _ => ?_) (fun z => absurd z (by rw [g1.2.2.2.1]; unfold jX_kd; split <;> decide))
                refine jr_ic rfl ?_
                refine jr_zret rfl rfl rfl (Nat.zero_le _) (Nat.zero_le _) ?_
                refine jr_if_ne rfl (fun z => absurd (by decide) z) (fun _ => ?_)
                refine jr_ic rfl ?_
                refine jr_zret rfl rfl rfl (Nat.zero_le _) (Nat.zero_le _) ?_
                exact k h1 g1
          · refine jr_aload rfl rfl ?_
            refine jr_getI rfl rfl ?_
            rw [xm.2.2.1]
            refine jr_ic rfl ?_
            refine jr_icmp_eq rfl (fun c61 => ?_) (fun c61 => ?_)
            · refine jr_iload rfl rfl ?_
              refine jr_if_ne rfl (fun z => absurd (by decide) z) (fun _ => ?_)
              refine jr_iload rfl rfl ?_
              refine jr_if_ne rfl (fun z => absurd (by decide) z) (fun _ => ?_)
              refine jr_iload rfl rfl ?_
              refine jr_if_eq rfl (fun c69 => ?_) (fun c69 => ?_)
              · exfalso
                have f8 := jn_nle (show ¬ nI w ≤ nI 3 from c8) (by omega) (by decide)
                have f17 := jn_lt (show nI w < nI 7 from c17) (by omega) (by decide)
                have f45 : ¬ u = 90 := fun z => c45 (by rw [z]; rfl)
                have f49 : ¬ v = 30 := fun z => c49 (by rw [z]; rfl)
                have f57 : jT_wh (jT_K B sz t) = 0 := jn_eq (show nI (jT_wh (jT_K B sz t)) = nI 0 from c57) (by have := jT_wh_lt (jT_K B sz t); omega) (by decide)
                have f61 : jT_K B sz t = 2 := jT_mt4.mp c61
                have f69 := jf_n c69
                omega
              · refine jr_aload rfl rfl ?_
                refine jr_getI rfl rfl ?_
                refine jr_ic rfl ?_
                refine jr_icmp_ne rfl (fun c73 => ?_) (fun c73 => ?_)
                · exfalso
                  have f8 := jn_nle (show ¬ nI w ≤ nI 3 from c8) (by omega) (by decide)
                  have f17 := jn_lt (show nI w < nI 7 from c17) (by omega) (by decide)
                  have f45 : ¬ u = 90 := fun z => c45 (by rw [z]; rfl)
                  have f49 : ¬ v = 30 := fun z => c49 (by rw [z]; rfl)
                  have f57 : jT_wh (jT_K B sz t) = 0 := jn_eq (show nI (jT_wh (jT_K B sz t)) = nI 0 from c57) (by have := jT_wh_lt (jT_K B sz t); omega) (by decide)
                  have f61 : jT_K B sz t = 2 := jT_mt4.mp c61
                  have f69 := jf_p c69
                  have f73 : ¬ i = 7 := fun z => c73 ((show jh_I h 11 0 46 = nI i from xi).trans (by rw [z]; rfl))
                  omega
                · refine jr_aload rfl rfl ?_
                  refine jr_cv0 (mc' := 0) (ms' := 0) rfl jm_MD_misplaced_n jm_MD_misplaced_f rfl rfl rfl rfl rfl rfl rfl (Nat.zero_le _) (Nat.zero_le _) ?_
                  refine eM_misplaced xg xm (fun h1 g1 => ?_)
                  refine jr_aload rfl rfl ?_
                  refine jr_cv0 (mc' := 0) (ms' := 0) rfl jm_MD_isGood_n jm_MD_isGood_f rfl rfl rfl rfl rfl rfl rfl (Nat.zero_le _) (Nat.zero_le _) ?_
                  show jx_W (jm_MD_isGood, _, _, _, _, _, _) _ 0 0 0 [some _] [] _
                  refine jr_aload rfl rfl ?_
                  refine jr_getI rfl rfl ?_
                  refine jr_if_ne rfl (fun _ => ?_) (fun z => absurd z (by rw [g1.2.2.2.1]; unfold jX_kd; split <;> decide))
                  refine jr_ic rfl ?_
                  refine jr_zret rfl rfl rfl (Nat.zero_le _) (Nat.zero_le _) ?_
                  refine jr_if_ne rfl (fun z => absurd (by decide) z) (fun _ => ?_)
                  refine jr_ic rfl ?_
                  refine jr_zret rfl rfl rfl (Nat.zero_le _) (Nat.zero_le _) ?_
                  exact k h1 g1
            · refine jr_iload rfl rfl ?_
              refine jr_if_eq rfl (fun c63 => ?_) (fun c63 => ?_)
              · refine jr_aload rfl rfl ?_
                refine jr_cv0 (mc' := 0) (ms' := 0) rfl jm_MD_misplaced_n jm_MD_misplaced_f rfl rfl rfl rfl rfl rfl rfl (Nat.zero_le _) (Nat.zero_le _) ?_
                refine eM_misplaced xg xm (fun h1 g1 => ?_)
                refine jr_aload rfl rfl ?_
                refine jr_cv0 (mc' := 0) (ms' := 0) rfl jm_MD_isGood_n jm_MD_isGood_f rfl rfl rfl rfl rfl rfl rfl (Nat.zero_le _) (Nat.zero_le _) ?_
                show jx_W (jm_MD_isGood, _, _, _, _, _, _) _ 0 0 0 [some _] [] _
                refine jr_aload rfl rfl ?_
                refine jr_getI rfl rfl ?_
                refine jr_if_ne rfl (fun _ => ?_) (fun z => absurd z (by rw [g1.2.2.2.1]; unfold jX_kd; split <;> decide))
                refine jr_ic rfl ?_
                refine jr_zret rfl rfl rfl (Nat.zero_le _) (Nat.zero_le _) ?_
                refine jr_if_ne rfl (fun z => absurd (by decide) z) (fun _ => ?_)
                refine jr_ic rfl ?_
                refine jr_zret rfl rfl rfl (Nat.zero_le _) (Nat.zero_le _) ?_
                exact k h1 g1
              · refine jr_iload rfl rfl ?_
                refine jr_if_ne rfl (fun z => absurd (by decide) z) (fun _ => ?_)
                refine jr_iload rfl rfl ?_
                refine jr_if_ne rfl (fun z => absurd (by decide) z) (fun _ => ?_)
                refine jr_iload rfl rfl ?_
                refine jr_if_eq rfl (fun c69 => ?_) (fun c69 => ?_)
                · exfalso
                  have f8 := jn_nle (show ¬ nI w ≤ nI 3 from c8) (by omega) (by decide)
                  have f17 := jn_lt (show nI w < nI 7 from c17) (by omega) (by decide)
                  have f45 : ¬ u = 90 := fun z => c45 (by rw [z]; rfl)
                  have f49 : ¬ v = 30 := fun z => c49 (by rw [z]; rfl)
                  have f57 : jT_wh (jT_K B sz t) = 0 := jn_eq (show nI (jT_wh (jT_K B sz t)) = nI 0 from c57) (by have := jT_wh_lt (jT_K B sz t); omega) (by decide)
                  have f61 : ¬ jT_K B sz t = 2 := fun z => c61 (jT_mt4.mpr z)
                  have f63 := jf_p c63
                  have f69 := jf_n c69
                  omega
                · refine jr_aload rfl rfl ?_
                  refine jr_getI rfl rfl ?_
                  refine jr_ic rfl ?_
                  refine jr_icmp_ne rfl (fun c73 => ?_) (fun c73 => ?_)
                  · exfalso
                    have f8 := jn_nle (show ¬ nI w ≤ nI 3 from c8) (by omega) (by decide)
                    have f17 := jn_lt (show nI w < nI 7 from c17) (by omega) (by decide)
                    have f45 : ¬ u = 90 := fun z => c45 (by rw [z]; rfl)
                    have f49 : ¬ v = 30 := fun z => c49 (by rw [z]; rfl)
                    have f57 : jT_wh (jT_K B sz t) = 0 := jn_eq (show nI (jT_wh (jT_K B sz t)) = nI 0 from c57) (by have := jT_wh_lt (jT_K B sz t); omega) (by decide)
                    have f61 : ¬ jT_K B sz t = 2 := fun z => c61 (jT_mt4.mpr z)
                    have f63 := jf_p c63
                    have f69 := jf_p c69
                    have f73 : ¬ i = 7 := fun z => c73 ((show jh_I h 11 0 46 = nI i from xi).trans (by rw [z]; rfl))
                    omega
                  · refine jr_aload rfl rfl ?_
                    refine jr_cv0 (mc' := 0) (ms' := 0) rfl jm_MD_misplaced_n jm_MD_misplaced_f rfl rfl rfl rfl rfl rfl rfl (Nat.zero_le _) (Nat.zero_le _) ?_
                    refine eM_misplaced xg xm (fun h1 g1 => ?_)
                    refine jr_aload rfl rfl ?_
                    refine jr_cv0 (mc' := 0) (ms' := 0) rfl jm_MD_isGood_n jm_MD_isGood_f rfl rfl rfl rfl rfl rfl rfl (Nat.zero_le _) (Nat.zero_le _) ?_
                    show jx_W (jm_MD_isGood, _, _, _, _, _, _) _ 0 0 0 [some _] [] _
                    refine jr_aload rfl rfl ?_
                    refine jr_getI rfl rfl ?_
                    refine jr_if_ne rfl (fun _ => ?_) (fun z => absurd z (by rw [g1.2.2.2.1]; unfold jX_kd; split <;> decide))
                    refine jr_ic rfl ?_
                    refine jr_zret rfl rfl rfl (Nat.zero_le _) (Nat.zero_le _) ?_
                    refine jr_if_ne rfl (fun z => absurd (by decide) z) (fun _ => ?_)
                    refine jr_ic rfl ?_
                    refine jr_zret rfl rfl rfl (Nat.zero_le _) (Nat.zero_le _) ?_
                    exact k h1 g1
        · refine jr_ic rfl ?_
          refine jr_goto rfl ?_
          refine jr_ist5 rfl rfl ?_
          refine jr_iload rfl rfl ?_
          refine jr_if_ne rfl (fun z => absurd (by decide) z) (fun _ => ?_)
          refine jr_iload rfl rfl ?_
          refine jr_if_ne rfl (fun c57 => ?_) (fun c57 => ?_)
          · refine jr_iload rfl rfl ?_
            refine jr_if_ne rfl (fun _ => ?_) (fun z => absurd z (by decide))
            refine jr_aload rfl rfl ?_
            refine jr_cv0 (mc' := 0) (ms' := 0) rfl jm_MD_misplaced_n jm_MD_misplaced_f rfl rfl rfl rfl rfl rfl rfl (Nat.zero_le _) (Nat.zero_le _) ?_
            refine eM_misplaced xg xm (fun h1 g1 => ?_)
            refine jr_aload rfl rfl ?_
            refine jr_cv0 (mc' := 0) (ms' := 0) rfl jm_MD_isGood_n jm_MD_isGood_f rfl rfl rfl rfl rfl rfl rfl (Nat.zero_le _) (Nat.zero_le _) ?_
            show jx_W (jm_MD_isGood, _, _, _, _, _, _) _ 0 0 0 [some _] [] _
            refine jr_aload rfl rfl ?_
            refine jr_getI rfl rfl ?_
            refine jr_if_ne rfl (fun _ => ?_) (fun z => absurd z (by rw [g1.2.2.2.1]; unfold jX_kd; split <;> decide))
            refine jr_ic rfl ?_
            refine jr_zret rfl rfl rfl (Nat.zero_le _) (Nat.zero_le _) ?_
            refine jr_if_ne rfl (fun z => absurd (by decide) z) (fun _ => ?_)
            refine jr_ic rfl ?_
            refine jr_zret rfl rfl rfl (Nat.zero_le _) (Nat.zero_le _) ?_
            exact k h1 g1
          · refine jr_aload rfl rfl ?_
            refine jr_getI rfl rfl ?_
            rw [xm.2.2.1]
            refine jr_ic rfl ?_
            refine jr_icmp_eq rfl (fun c61 => ?_) (fun c61 => ?_)
            · refine jr_iload rfl rfl ?_
              refine jr_if_ne rfl (fun _ => ?_) (fun z => absurd z (by decide))
              refine jr_aload rfl rfl ?_
              refine jr_cv0 (mc' := 0) (ms' := 0) rfl jm_MD_misplaced_n jm_MD_misplaced_f rfl rfl rfl rfl rfl rfl rfl (Nat.zero_le _) (Nat.zero_le _) ?_
              refine eM_misplaced xg xm (fun h1 g1 => ?_)
              refine jr_aload rfl rfl ?_
              refine jr_cv0 (mc' := 0) (ms' := 0) rfl jm_MD_isGood_n jm_MD_isGood_f rfl rfl rfl rfl rfl rfl rfl (Nat.zero_le _) (Nat.zero_le _) ?_
              show jx_W (jm_MD_isGood, _, _, _, _, _, _) _ 0 0 0 [some _] [] _
              refine jr_aload rfl rfl ?_
              refine jr_getI rfl rfl ?_
              refine jr_if_ne rfl (fun _ => ?_) (fun z => absurd z (by rw [g1.2.2.2.1]; unfold jX_kd; split <;> decide))
              refine jr_ic rfl ?_
              refine jr_zret rfl rfl rfl (Nat.zero_le _) (Nat.zero_le _) ?_
              refine jr_if_ne rfl (fun z => absurd (by decide) z) (fun _ => ?_)
              refine jr_ic rfl ?_
              refine jr_zret rfl rfl rfl (Nat.zero_le _) (Nat.zero_le _) ?_
              exact k h1 g1
            · refine jr_iload rfl rfl ?_
              refine jr_if_eq rfl (fun c63 => ?_) (fun c63 => ?_)
              · refine jr_aload rfl rfl ?_
                refine jr_cv0 (mc' := 0) (ms' := 0) rfl jm_MD_misplaced_n jm_MD_misplaced_f rfl rfl rfl rfl rfl rfl rfl (Nat.zero_le _) (Nat.zero_le _) ?_
                refine eM_misplaced xg xm (fun h1 g1 => ?_)
                refine jr_aload rfl rfl ?_
                refine jr_cv0 (mc' := 0) (ms' := 0) rfl jm_MD_isGood_n jm_MD_isGood_f rfl rfl rfl rfl rfl rfl rfl (Nat.zero_le _) (Nat.zero_le _) ?_
                show jx_W (jm_MD_isGood, _, _, _, _, _, _) _ 0 0 0 [some _] [] _
                refine jr_aload rfl rfl ?_
                refine jr_getI rfl rfl ?_
                refine jr_if_ne rfl (fun _ => ?_) (fun z => absurd z (by rw [g1.2.2.2.1]; unfold jX_kd; split <;> decide))
                refine jr_ic rfl ?_
                refine jr_zret rfl rfl rfl (Nat.zero_le _) (Nat.zero_le _) ?_
                refine jr_if_ne rfl (fun z => absurd (by decide) z) (fun _ => ?_)
                refine jr_ic rfl ?_
                refine jr_zret rfl rfl rfl (Nat.zero_le _) (Nat.zero_le _) ?_
                exact k h1 g1
              · refine jr_iload rfl rfl ?_
                refine jr_if_ne rfl (fun _ => ?_) (fun z => absurd z (by decide))
                refine jr_aload rfl rfl ?_
                refine jr_cv0 (mc' := 0) (ms' := 0) rfl jm_MD_misplaced_n jm_MD_misplaced_f rfl rfl rfl rfl rfl rfl rfl (Nat.zero_le _) (Nat.zero_le _) ?_
                refine eM_misplaced xg xm (fun h1 g1 => ?_)
                refine jr_aload rfl rfl ?_
                refine jr_cv0 (mc' := 0) (ms' := 0) rfl jm_MD_isGood_n jm_MD_isGood_f rfl rfl rfl rfl rfl rfl rfl (Nat.zero_le _) (Nat.zero_le _) ?_
                show jx_W (jm_MD_isGood, _, _, _, _, _, _) _ 0 0 0 [some _] [] _
                refine jr_aload rfl rfl ?_
                refine jr_getI rfl rfl ?_
                refine jr_if_ne rfl (fun _ => ?_) (fun z => absurd z (by rw [g1.2.2.2.1]; unfold jX_kd; split <;> decide))
                refine jr_ic rfl ?_
                refine jr_zret rfl rfl rfl (Nat.zero_le _) (Nat.zero_le _) ?_
                refine jr_if_ne rfl (fun z => absurd (by decide) z) (fun _ => ?_)
                refine jr_ic rfl ?_
                refine jr_zret rfl rfl rfl (Nat.zero_le _) (Nat.zero_le _) ?_
                exact k h1 g1
    · refine jr_ic rfl ?_
      refine jr_goto rfl ?_
      refine jr_ist1 rfl rfl ?_
      refine jr_iload rfl rfl ?_
      refine jr_if_eq rfl (fun z => absurd z (by decide)) (fun _ => ?_)
      refine jr_aload rfl rfl ?_
      refine jr_lc rfl ?_
      refine jr_cv1 (mc' := 0) (ms' := 0) rfl jm_MD_isWord_n jm_MD_isWord_f rfl rfl rfl rfl rfl rfl rfl (Nat.zero_le _) (Nat.zero_le _) ?_
      refine eM_isWord xm (i := 28) (by decide) jT_W28 ?_
      refine jr_if_eq rfl (fun c27 => ?_) (fun c27 => ?_)
      · refine jr_ic rfl ?_
        refine jr_ist2 rfl rfl ?_
        refine jr_aload rfl rfl ?_
        refine jr_ic rfl ?_
        refine jr_cv1 (mc' := 0) (ms' := 0) rfl jm_MD_isSignHere_n jm_MD_isSignHere_f rfl rfl rfl rfl rfl rfl rfl (Nat.zero_le _) (Nat.zero_le _) ?_
        refine eM_isSignHere (s := 40) xt xm (by decide) ?_
        refine jr_ist3 rfl rfl ?_
        refine jr_aload rfl rfl ?_
        refine jr_cv0 (mc' := 0) (ms' := 0) rfl jm_MD_wordHere_n jm_MD_wordHere_f rfl rfl rfl rfl rfl rfl rfl (Nat.zero_le _) (Nat.zero_le _) ?_
        refine eM_wordHere xm ?_
        refine jr_ist4 rfl rfl ?_
        refine jr_aload rfl rfl ?_
        refine jr_getR rfl rfl rfl rfl (Or.inl rfl) ?_
        refine jr_aload rfl rfl ?_
        refine jr_getI rfl rfl ?_
        refine jr_iald (len := 2) rfl rfl xb (by omega) ?_
        rw [xu]
        refine jr_ic rfl ?_
        refine jr_icmp_eq rfl (fun c45 => ?_) (fun c45 => ?_)
        · refine jr_ic rfl ?_
          refine jr_goto rfl ?_
          refine jr_ist5 rfl rfl ?_
          refine jr_iload rfl rfl ?_
          refine jr_if_ne rfl (fun z => absurd (by decide) z) (fun _ => ?_)
          refine jr_iload rfl rfl ?_
          refine jr_if_ne rfl (fun c57 => ?_) (fun c57 => ?_)
          · refine jr_iload rfl rfl ?_
            refine jr_if_ne rfl (fun _ => ?_) (fun z => absurd z (by decide))
            refine jr_aload rfl rfl ?_
            refine jr_cv0 (mc' := 0) (ms' := 0) rfl jm_MD_misplaced_n jm_MD_misplaced_f rfl rfl rfl rfl rfl rfl rfl (Nat.zero_le _) (Nat.zero_le _) ?_
            refine eM_misplaced xg xm (fun h1 g1 => ?_)
            refine jr_aload rfl rfl ?_
            refine jr_cv0 (mc' := 0) (ms' := 0) rfl jm_MD_isGood_n jm_MD_isGood_f rfl rfl rfl rfl rfl rfl rfl (Nat.zero_le _) (Nat.zero_le _) ?_
            show jx_W (jm_MD_isGood, _, _, _, _, _, _) _ 0 0 0 [some _] [] _
            refine jr_aload rfl rfl ?_
            refine jr_getI rfl rfl ?_
            refine jr_if_ne rfl (fun _ => ?_) (fun z => absurd z (by rw [g1.2.2.2.1]; unfold jX_kd; split <;> decide))
            refine jr_ic rfl ?_
            refine jr_zret rfl rfl rfl (Nat.zero_le _) (Nat.zero_le _) ?_
            refine jr_if_ne rfl (fun z => absurd (by decide) z) (fun _ => ?_)
            refine jr_ic rfl ?_
            refine jr_zret rfl rfl rfl (Nat.zero_le _) (Nat.zero_le _) ?_
            exact k h1 g1
          · refine jr_aload rfl rfl ?_
            refine jr_getI rfl rfl ?_
            rw [xm.2.2.1]
            refine jr_ic rfl ?_
            refine jr_icmp_eq rfl (fun c61 => ?_) (fun c61 => ?_)
            · refine jr_iload rfl rfl ?_
              refine jr_if_ne rfl (fun _ => ?_) (fun z => absurd z (by decide))
              refine jr_aload rfl rfl ?_
              refine jr_cv0 (mc' := 0) (ms' := 0) rfl jm_MD_misplaced_n jm_MD_misplaced_f rfl rfl rfl rfl rfl rfl rfl (Nat.zero_le _) (Nat.zero_le _) ?_
              refine eM_misplaced xg xm (fun h1 g1 => ?_)
              refine jr_aload rfl rfl ?_
              refine jr_cv0 (mc' := 0) (ms' := 0) rfl jm_MD_isGood_n jm_MD_isGood_f rfl rfl rfl rfl rfl rfl rfl (Nat.zero_le _) (Nat.zero_le _) ?_
              show jx_W (jm_MD_isGood, _, _, _, _, _, _) _ 0 0 0 [some _] [] _
              refine jr_aload rfl rfl ?_
              refine jr_getI rfl rfl ?_
              refine jr_if_ne rfl (fun _ => ?_) (fun z => absurd z (by rw [g1.2.2.2.1]; unfold jX_kd; split <;> decide))
              refine jr_ic rfl ?_
              refine jr_zret rfl rfl rfl (Nat.zero_le _) (Nat.zero_le _) ?_
              refine jr_if_ne rfl (fun z => absurd (by decide) z) (fun _ => ?_)
              refine jr_ic rfl ?_
              refine jr_zret rfl rfl rfl (Nat.zero_le _) (Nat.zero_le _) ?_
              exact k h1 g1
            · refine jr_iload rfl rfl ?_
              refine jr_if_eq rfl (fun c63 => ?_) (fun c63 => ?_)
              · refine jr_aload rfl rfl ?_
                refine jr_cv0 (mc' := 0) (ms' := 0) rfl jm_MD_misplaced_n jm_MD_misplaced_f rfl rfl rfl rfl rfl rfl rfl (Nat.zero_le _) (Nat.zero_le _) ?_
                refine eM_misplaced xg xm (fun h1 g1 => ?_)
                refine jr_aload rfl rfl ?_
                refine jr_cv0 (mc' := 0) (ms' := 0) rfl jm_MD_isGood_n jm_MD_isGood_f rfl rfl rfl rfl rfl rfl rfl (Nat.zero_le _) (Nat.zero_le _) ?_
                show jx_W (jm_MD_isGood, _, _, _, _, _, _) _ 0 0 0 [some _] [] _
                refine jr_aload rfl rfl ?_
                refine jr_getI rfl rfl ?_
                refine jr_if_ne rfl (fun _ => ?_) (fun z => absurd z (by rw [g1.2.2.2.1]; unfold jX_kd; split <;> decide))
                refine jr_ic rfl ?_
                refine jr_zret rfl rfl rfl (Nat.zero_le _) (Nat.zero_le _) ?_
                refine jr_if_ne rfl (fun z => absurd (by decide) z) (fun _ => ?_)
                refine jr_ic rfl ?_
                refine jr_zret rfl rfl rfl (Nat.zero_le _) (Nat.zero_le _) ?_
                exact k h1 g1
              · refine jr_iload rfl rfl ?_
                refine jr_if_ne rfl (fun _ => ?_) (fun z => absurd z (by decide))
                refine jr_aload rfl rfl ?_
                refine jr_cv0 (mc' := 0) (ms' := 0) rfl jm_MD_misplaced_n jm_MD_misplaced_f rfl rfl rfl rfl rfl rfl rfl (Nat.zero_le _) (Nat.zero_le _) ?_
                refine eM_misplaced xg xm (fun h1 g1 => ?_)
                refine jr_aload rfl rfl ?_
                refine jr_cv0 (mc' := 0) (ms' := 0) rfl jm_MD_isGood_n jm_MD_isGood_f rfl rfl rfl rfl rfl rfl rfl (Nat.zero_le _) (Nat.zero_le _) ?_
                show jx_W (jm_MD_isGood, _, _, _, _, _, _) _ 0 0 0 [some _] [] _
                refine jr_aload rfl rfl ?_
                refine jr_getI rfl rfl ?_
                refine jr_if_ne rfl (fun _ => ?_) (fun z => absurd z (by rw [g1.2.2.2.1]; unfold jX_kd; split <;> decide))
                refine jr_ic rfl ?_
                refine jr_zret rfl rfl rfl (Nat.zero_le _) (Nat.zero_le _) ?_
                refine jr_if_ne rfl (fun z => absurd (by decide) z) (fun _ => ?_)
                refine jr_ic rfl ?_
                refine jr_zret rfl rfl rfl (Nat.zero_le _) (Nat.zero_le _) ?_
                exact k h1 g1
        · refine jr_aload rfl rfl ?_
          refine jr_getI rfl rfl ?_
          rw [xv]
          refine jr_ic rfl ?_
          refine jr_icmp_ne rfl (fun c49 => ?_) (fun c49 => ?_)
          · refine jr_ic rfl ?_
            refine jr_ist5 rfl rfl ?_
            refine jr_iload rfl rfl ?_
            refine jr_if_ne rfl (fun z => absurd (by decide) z) (fun _ => ?_)
            refine jr_iload rfl rfl ?_
            refine jr_if_ne rfl (fun c57 => ?_) (fun c57 => ?_)
            · refine jr_iload rfl rfl ?_
              refine jr_if_ne rfl (fun z => absurd (by decide) z) (fun _ => ?_)
              refine jr_iload rfl rfl ?_
              refine jr_if_ne rfl (fun z => absurd (by decide) z) (fun _ => ?_)
              refine jr_iload rfl rfl ?_
              refine jr_if_eq rfl (fun c69 => ?_) (fun c69 => ?_)
              · exfalso
                have f8 := jn_nle (show ¬ nI w ≤ nI 3 from c8) (by omega) (by decide)
                have f17 := jn_nlt (show ¬ nI w < nI 7 from c17) (by omega) (by decide)
                have f27 := jf_n c27
                have f45 : ¬ u = 90 := fun z => c45 (by rw [z]; rfl)
                have f49 : ¬ v = 30 := fun z => c49 (by rw [z]; rfl)
                have f57 : ¬ jT_wh (jT_K B sz t) = 0 := fun z => c57 (by rw [z]; rfl)
                have f69 := jf_n c69
                omega
              · refine jr_aload rfl rfl ?_
                refine jr_getI rfl rfl ?_
                refine jr_ic rfl ?_
                refine jr_icmp_ne rfl (fun c73 => ?_) (fun c73 => ?_)
                · exfalso
                  have f8 := jn_nle (show ¬ nI w ≤ nI 3 from c8) (by omega) (by decide)
                  have f17 := jn_nlt (show ¬ nI w < nI 7 from c17) (by omega) (by decide)
                  have f27 := jf_n c27
                  have f45 : ¬ u = 90 := fun z => c45 (by rw [z]; rfl)
                  have f49 : ¬ v = 30 := fun z => c49 (by rw [z]; rfl)
                  have f57 : ¬ jT_wh (jT_K B sz t) = 0 := fun z => c57 (by rw [z]; rfl)
                  have f69 := jf_p c69
                  have f73 : ¬ i = 7 := fun z => c73 ((show jh_I h 11 0 46 = nI i from xi).trans (by rw [z]; rfl))
                  omega
                · refine jr_aload rfl rfl ?_
                  refine jr_cv0 (mc' := 0) (ms' := 0) rfl jm_MD_misplaced_n jm_MD_misplaced_f rfl rfl rfl rfl rfl rfl rfl (Nat.zero_le _) (Nat.zero_le _) ?_
                  refine eM_misplaced xg xm (fun h1 g1 => ?_)
                  refine jr_aload rfl rfl ?_
                  refine jr_cv0 (mc' := 0) (ms' := 0) rfl jm_MD_isGood_n jm_MD_isGood_f rfl rfl rfl rfl rfl rfl rfl (Nat.zero_le _) (Nat.zero_le _) ?_
                  show jx_W (jm_MD_isGood, _, _, _, _, _, _) _ 0 0 0 [some _] [] _
                  refine jr_aload rfl rfl ?_
                  refine jr_getI rfl rfl ?_
                  refine jr_if_ne rfl (fun _ => ?_) (fun z => absurd z (by rw [g1.2.2.2.1]; unfold jX_kd; split <;> decide))
                  refine jr_ic rfl ?_
                  refine jr_zret rfl rfl rfl (Nat.zero_le _) (Nat.zero_le _) ?_
                  refine jr_if_ne rfl (fun z => absurd (by decide) z) (fun _ => ?_)
                  refine jr_ic rfl ?_
                  refine jr_zret rfl rfl rfl (Nat.zero_le _) (Nat.zero_le _) ?_
                  exact k h1 g1
            · refine jr_aload rfl rfl ?_
              refine jr_getI rfl rfl ?_
              rw [xm.2.2.1]
              refine jr_ic rfl ?_
              refine jr_icmp_eq rfl (fun c61 => ?_) (fun c61 => ?_)
              · refine jr_iload rfl rfl ?_
                refine jr_if_ne rfl (fun z => absurd (by decide) z) (fun _ => ?_)
                refine jr_iload rfl rfl ?_
                refine jr_if_ne rfl (fun z => absurd (by decide) z) (fun _ => ?_)
                refine jr_iload rfl rfl ?_
                refine jr_if_eq rfl (fun c69 => ?_) (fun c69 => ?_)
                · exfalso
                  have f8 := jn_nle (show ¬ nI w ≤ nI 3 from c8) (by omega) (by decide)
                  have f17 := jn_nlt (show ¬ nI w < nI 7 from c17) (by omega) (by decide)
                  have f27 := jf_n c27
                  have f45 : ¬ u = 90 := fun z => c45 (by rw [z]; rfl)
                  have f49 : ¬ v = 30 := fun z => c49 (by rw [z]; rfl)
                  have f57 : jT_wh (jT_K B sz t) = 0 := jn_eq (show nI (jT_wh (jT_K B sz t)) = nI 0 from c57) (by have := jT_wh_lt (jT_K B sz t); omega) (by decide)
                  have f61 : jT_K B sz t = 2 := jT_mt4.mp c61
                  have f69 := jf_n c69
                  omega
                · refine jr_aload rfl rfl ?_
                  refine jr_getI rfl rfl ?_
                  refine jr_ic rfl ?_
                  refine jr_icmp_ne rfl (fun c73 => ?_) (fun c73 => ?_)
                  · exfalso
                    have f8 := jn_nle (show ¬ nI w ≤ nI 3 from c8) (by omega) (by decide)
                    have f17 := jn_nlt (show ¬ nI w < nI 7 from c17) (by omega) (by decide)
                    have f27 := jf_n c27
                    have f45 : ¬ u = 90 := fun z => c45 (by rw [z]; rfl)
                    have f49 : ¬ v = 30 := fun z => c49 (by rw [z]; rfl)
                    have f57 : jT_wh (jT_K B sz t) = 0 := jn_eq (show nI (jT_wh (jT_K B sz t)) = nI 0 from c57) (by have := jT_wh_lt (jT_K B sz t); omega) (by decide)
                    have f61 : jT_K B sz t = 2 := jT_mt4.mp c61
                    have f69 := jf_p c69
                    have f73 : ¬ i = 7 := fun z => c73 ((show jh_I h 11 0 46 = nI i from xi).trans (by rw [z]; rfl))
                    omega
                  · refine jr_aload rfl rfl ?_
                    refine jr_cv0 (mc' := 0) (ms' := 0) rfl jm_MD_misplaced_n jm_MD_misplaced_f rfl rfl rfl rfl rfl rfl rfl (Nat.zero_le _) (Nat.zero_le _) ?_
                    refine eM_misplaced xg xm (fun h1 g1 => ?_)
                    refine jr_aload rfl rfl ?_
                    refine jr_cv0 (mc' := 0) (ms' := 0) rfl jm_MD_isGood_n jm_MD_isGood_f rfl rfl rfl rfl rfl rfl rfl (Nat.zero_le _) (Nat.zero_le _) ?_
                    show jx_W (jm_MD_isGood, _, _, _, _, _, _) _ 0 0 0 [some _] [] _
                    refine jr_aload rfl rfl ?_
                    refine jr_getI rfl rfl ?_
                    refine jr_if_ne rfl (fun _ => ?_) (fun z => absurd z (by rw [g1.2.2.2.1]; unfold jX_kd; split <;> decide))
                    refine jr_ic rfl ?_
                    refine jr_zret rfl rfl rfl (Nat.zero_le _) (Nat.zero_le _) ?_
                    refine jr_if_ne rfl (fun z => absurd (by decide) z) (fun _ => ?_)
                    refine jr_ic rfl ?_
                    refine jr_zret rfl rfl rfl (Nat.zero_le _) (Nat.zero_le _) ?_
                    exact k h1 g1
              · refine jr_iload rfl rfl ?_
                refine jr_if_eq rfl (fun c63 => ?_) (fun c63 => ?_)
                · refine jr_aload rfl rfl ?_
                  refine jr_cv0 (mc' := 0) (ms' := 0) rfl jm_MD_misplaced_n jm_MD_misplaced_f rfl rfl rfl rfl rfl rfl rfl (Nat.zero_le _) (Nat.zero_le _) ?_
                  refine eM_misplaced xg xm (fun h1 g1 => ?_)
                  refine jr_aload rfl rfl ?_
                  refine jr_cv0 (mc' := 0) (ms' := 0) rfl jm_MD_isGood_n jm_MD_isGood_f rfl rfl rfl rfl rfl rfl rfl (Nat.zero_le _) (Nat.zero_le _) ?_
                  show jx_W (jm_MD_isGood, _, _, _, _, _, _) _ 0 0 0 [some _] [] _
                  refine jr_aload rfl rfl ?_
                  refine jr_getI rfl rfl ?_
                  refine jr_if_ne rfl (fun _ => ?_) (fun z => absurd z (by rw [g1.2.2.2.1]; unfold jX_kd; split <;> decide))
                  refine jr_ic rfl ?_
                  refine jr_zret rfl rfl rfl (Nat.zero_le _) (Nat.zero_le _) ?_
                  refine jr_if_ne rfl (fun z => absurd (by decide) z) (fun _ => ?_)
                  refine jr_ic rfl ?_
                  refine jr_zret rfl rfl rfl (Nat.zero_le _) (Nat.zero_le _) ?_
                  exact k h1 g1
                · refine jr_iload rfl rfl ?_
                  refine jr_if_ne rfl (fun z => absurd (by decide) z) (fun _ => ?_)
                  refine jr_iload rfl rfl ?_
                  refine jr_if_ne rfl (fun z => absurd (by decide) z) (fun _ => ?_)
                  refine jr_iload rfl rfl ?_
                  refine jr_if_eq rfl (fun c69 => ?_) (fun c69 => ?_)
                  · exfalso
                    have f8 := jn_nle (show ¬ nI w ≤ nI 3 from c8) (by omega) (by decide)
                    have f17 := jn_nlt (show ¬ nI w < nI 7 from c17) (by omega) (by decide)
                    have f27 := jf_n c27
                    have f45 : ¬ u = 90 := fun z => c45 (by rw [z]; rfl)
                    have f49 : ¬ v = 30 := fun z => c49 (by rw [z]; rfl)
                    have f57 : jT_wh (jT_K B sz t) = 0 := jn_eq (show nI (jT_wh (jT_K B sz t)) = nI 0 from c57) (by have := jT_wh_lt (jT_K B sz t); omega) (by decide)
                    have f61 : ¬ jT_K B sz t = 2 := fun z => c61 (jT_mt4.mpr z)
                    have f63 := jf_p c63
                    have f69 := jf_n c69
                    omega
                  · refine jr_aload rfl rfl ?_
                    refine jr_getI rfl rfl ?_
                    refine jr_ic rfl ?_
                    refine jr_icmp_ne rfl (fun c73 => ?_) (fun c73 => ?_)
                    · exfalso
                      have f8 := jn_nle (show ¬ nI w ≤ nI 3 from c8) (by omega) (by decide)
                      have f17 := jn_nlt (show ¬ nI w < nI 7 from c17) (by omega) (by decide)
                      have f27 := jf_n c27
                      have f45 : ¬ u = 90 := fun z => c45 (by rw [z]; rfl)
                      have f49 : ¬ v = 30 := fun z => c49 (by rw [z]; rfl)
                      have f57 : jT_wh (jT_K B sz t) = 0 := jn_eq (show nI (jT_wh (jT_K B sz t)) = nI 0 from c57) (by have := jT_wh_lt (jT_K B sz t); omega) (by decide)
                      have f61 : ¬ jT_K B sz t = 2 := fun z => c61 (jT_mt4.mpr z)
                      have f63 := jf_p c63
                      have f69 := jf_p c69
                      have f73 : ¬ i = 7 := fun z => c73 ((show jh_I h 11 0 46 = nI i from xi).trans (by rw [z]; rfl))
                      omega
                    · refine jr_aload rfl rfl ?_
                      refine jr_cv0 (mc' := 0) (ms' := 0) rfl jm_MD_misplaced_n jm_MD_misplaced_f rfl rfl rfl rfl rfl rfl rfl (Nat.zero_le _) (Nat.zero_le _) ?_
                      refine eM_misplaced xg xm (fun h1 g1 => ?_)
                      refine jr_aload rfl rfl ?_
                      refine jr_cv0 (mc' := 0) (ms' := 0) rfl jm_MD_isGood_n jm_MD_isGood_f rfl rfl rfl rfl rfl rfl rfl (Nat.zero_le _) (Nat.zero_le _) ?_
                      show jx_W (jm_MD_isGood, _, _, _, _, _, _) _ 0 0 0 [some _] [] _
                      refine jr_aload rfl rfl ?_
                      refine jr_getI rfl rfl ?_
                      refine jr_if_ne rfl (fun _ => ?_) (fun z => absurd z (by rw [g1.2.2.2.1]; unfold jX_kd; split <;> decide))
                      refine jr_ic rfl ?_
                      refine jr_zret rfl rfl rfl (Nat.zero_le _) (Nat.zero_le _) ?_
                      refine jr_if_ne rfl (fun z => absurd (by decide) z) (fun _ => ?_)
                      refine jr_ic rfl ?_
                      refine jr_zret rfl rfl rfl (Nat.zero_le _) (Nat.zero_le _) ?_
                      exact k h1 g1
          · refine jr_ic rfl ?_
            refine jr_goto rfl ?_
            refine jr_ist5 rfl rfl ?_
            refine jr_iload rfl rfl ?_
            refine jr_if_ne rfl (fun z => absurd (by decide) z) (fun _ => ?_)
            refine jr_iload rfl rfl ?_
            refine jr_if_ne rfl (fun c57 => ?_) (fun c57 => ?_)
            · refine jr_iload rfl rfl ?_
              refine jr_if_ne rfl (fun _ => ?_) (fun z => absurd z (by decide))
              refine jr_aload rfl rfl ?_
              refine jr_cv0 (mc' := 0) (ms' := 0) rfl jm_MD_misplaced_n jm_MD_misplaced_f rfl rfl rfl rfl rfl rfl rfl (Nat.zero_le _) (Nat.zero_le _) ?_
              refine eM_misplaced xg xm (fun h1 g1 => ?_)
              refine jr_aload rfl rfl ?_
              refine jr_cv0 (mc' := 0) (ms' := 0) rfl jm_MD_isGood_n jm_MD_isGood_f rfl rfl rfl rfl rfl rfl rfl (Nat.zero_le _) (Nat.zero_le _) ?_
              show jx_W (jm_MD_isGood, _, _, _, _, _, _) _ 0 0 0 [some _] [] _
              refine jr_aload rfl rfl ?_
              refine jr_getI rfl rfl ?_
              refine jr_if_ne rfl (fun _ => ?_) (fun z => absurd z (by rw [g1.2.2.2.1]; unfold jX_kd; split <;> decide))
              refine jr_ic rfl ?_
              refine jr_zret rfl rfl rfl (Nat.zero_le _) (Nat.zero_le _) ?_
              refine jr_if_ne rfl (fun z => absurd (by decide) z) (fun _ => ?_)
              refine jr_ic rfl ?_
              refine jr_zret rfl rfl rfl (Nat.zero_le _) (Nat.zero_le _) ?_
              exact k h1 g1
            · refine jr_aload rfl rfl ?_
              refine jr_getI rfl rfl ?_
              rw [xm.2.2.1]
              refine jr_ic rfl ?_
              refine jr_icmp_eq rfl (fun c61 => ?_) (fun c61 => ?_)
              · refine jr_iload rfl rfl ?_
                refine jr_if_ne rfl (fun _ => ?_) (fun z => absurd z (by decide))
                refine jr_aload rfl rfl ?_
                refine jr_cv0 (mc' := 0) (ms' := 0) rfl jm_MD_misplaced_n jm_MD_misplaced_f rfl rfl rfl rfl rfl rfl rfl (Nat.zero_le _) (Nat.zero_le _) ?_
                refine eM_misplaced xg xm (fun h1 g1 => ?_)
                refine jr_aload rfl rfl ?_
                refine jr_cv0 (mc' := 0) (ms' := 0) rfl jm_MD_isGood_n jm_MD_isGood_f rfl rfl rfl rfl rfl rfl rfl (Nat.zero_le _) (Nat.zero_le _) ?_
                show jx_W (jm_MD_isGood, _, _, _, _, _, _) _ 0 0 0 [some _] [] _
                refine jr_aload rfl rfl ?_
                refine jr_getI rfl rfl ?_
                refine jr_if_ne rfl (fun _ => ?_) (fun z => absurd z (by rw [g1.2.2.2.1]; unfold jX_kd; split <;> decide))
                refine jr_ic rfl ?_
                refine jr_zret rfl rfl rfl (Nat.zero_le _) (Nat.zero_le _) ?_
                refine jr_if_ne rfl (fun z => absurd (by decide) z) (fun _ => ?_)
                refine jr_ic rfl ?_
                refine jr_zret rfl rfl rfl (Nat.zero_le _) (Nat.zero_le _) ?_
                exact k h1 g1
              · refine jr_iload rfl rfl ?_
                refine jr_if_eq rfl (fun c63 => ?_) (fun c63 => ?_)
                · refine jr_aload rfl rfl ?_
                  refine jr_cv0 (mc' := 0) (ms' := 0) rfl jm_MD_misplaced_n jm_MD_misplaced_f rfl rfl rfl rfl rfl rfl rfl (Nat.zero_le _) (Nat.zero_le _) ?_
                  refine eM_misplaced xg xm (fun h1 g1 => ?_)
                  refine jr_aload rfl rfl ?_
                  refine jr_cv0 (mc' := 0) (ms' := 0) rfl jm_MD_isGood_n jm_MD_isGood_f rfl rfl rfl rfl rfl rfl rfl (Nat.zero_le _) (Nat.zero_le _) ?_
                  show jx_W (jm_MD_isGood, _, _, _, _, _, _) _ 0 0 0 [some _] [] _
                  refine jr_aload rfl rfl ?_
                  refine jr_getI rfl rfl ?_
                  refine jr_if_ne rfl (fun _ => ?_) (fun z => absurd z (by rw [g1.2.2.2.1]; unfold jX_kd; split <;> decide))
                  refine jr_ic rfl ?_
                  refine jr_zret rfl rfl rfl (Nat.zero_le _) (Nat.zero_le _) ?_
                  refine jr_if_ne rfl (fun z => absurd (by decide) z) (fun _ => ?_)
                  refine jr_ic rfl ?_
                  refine jr_zret rfl rfl rfl (Nat.zero_le _) (Nat.zero_le _) ?_
                  exact k h1 g1
                · refine jr_iload rfl rfl ?_
                  refine jr_if_ne rfl (fun _ => ?_) (fun z => absurd z (by decide))
                  refine jr_aload rfl rfl ?_
                  refine jr_cv0 (mc' := 0) (ms' := 0) rfl jm_MD_misplaced_n jm_MD_misplaced_f rfl rfl rfl rfl rfl rfl rfl (Nat.zero_le _) (Nat.zero_le _) ?_
                  refine eM_misplaced xg xm (fun h1 g1 => ?_)
                  refine jr_aload rfl rfl ?_
                  refine jr_cv0 (mc' := 0) (ms' := 0) rfl jm_MD_isGood_n jm_MD_isGood_f rfl rfl rfl rfl rfl rfl rfl (Nat.zero_le _) (Nat.zero_le _) ?_
                  show jx_W (jm_MD_isGood, _, _, _, _, _, _) _ 0 0 0 [some _] [] _
                  refine jr_aload rfl rfl ?_
                  refine jr_getI rfl rfl ?_
                  refine jr_if_ne rfl (fun _ => ?_) (fun z => absurd z (by rw [g1.2.2.2.1]; unfold jX_kd; split <;> decide))
                  refine jr_ic rfl ?_
                  refine jr_zret rfl rfl rfl (Nat.zero_le _) (Nat.zero_le _) ?_
                  refine jr_if_ne rfl (fun z => absurd (by decide) z) (fun _ => ?_)
                  refine jr_ic rfl ?_
                  refine jr_zret rfl rfl rfl (Nat.zero_le _) (Nat.zero_le _) ?_
                  exact k h1 g1
      · refine jr_ic rfl ?_
        refine jr_goto rfl ?_
        refine jr_ist2 rfl rfl ?_
        refine jr_aload rfl rfl ?_
        refine jr_ic rfl ?_
        refine jr_cv1 (mc' := 0) (ms' := 0) rfl jm_MD_isSignHere_n jm_MD_isSignHere_f rfl rfl rfl rfl rfl rfl rfl (Nat.zero_le _) (Nat.zero_le _) ?_
        refine eM_isSignHere (s := 40) xt xm (by decide) ?_
        refine jr_ist3 rfl rfl ?_
        refine jr_aload rfl rfl ?_
        refine jr_cv0 (mc' := 0) (ms' := 0) rfl jm_MD_wordHere_n jm_MD_wordHere_f rfl rfl rfl rfl rfl rfl rfl (Nat.zero_le _) (Nat.zero_le _) ?_
        refine eM_wordHere xm ?_
        refine jr_ist4 rfl rfl ?_
        refine jr_aload rfl rfl ?_
        refine jr_getR rfl rfl rfl rfl (Or.inl rfl) ?_
        refine jr_aload rfl rfl ?_
        refine jr_getI rfl rfl ?_
        refine jr_iald (len := 2) rfl rfl xb (by omega) ?_
        rw [xu]
        refine jr_ic rfl ?_
        refine jr_icmp_eq rfl (fun c45 => ?_) (fun c45 => ?_)
        · refine jr_ic rfl ?_
          refine jr_goto rfl ?_
          refine jr_ist5 rfl rfl ?_
          refine jr_iload rfl rfl ?_
          refine jr_if_ne rfl (fun _ => ?_) (fun z => absurd z (by decide))
          refine jr_iload rfl rfl ?_
          refine jr_if_ne rfl (fun _ => ?_) (fun z => absurd z (by decide))
          refine jr_aload rfl rfl ?_
          refine jr_getI rfl rfl ?_
          refine jr_ic rfl ?_
          refine jr_icmp_ne rfl (fun c73 => ?_) (fun c73 => ?_)
          · exfalso
            have f8 := jn_nle (show ¬ nI w ≤ nI 3 from c8) (by omega) (by decide)
            have f17 := jn_nlt (show ¬ nI w < nI 7 from c17) (by omega) (by decide)
            have f27 := jf_p c27
            have f45 := jn_eq (show nI u = nI 90 from c45) (by omega) (by decide)
            have f73 : ¬ i = 7 := fun z => c73 ((show jh_I h 11 0 46 = nI i from xi).trans (by rw [z]; rfl))
            omega
          · refine jr_aload rfl rfl ?_
            refine jr_cv0 (mc' := 0) (ms' := 0) rfl jm_MD_misplaced_n jm_MD_misplaced_f rfl rfl rfl rfl rfl rfl rfl (Nat.zero_le _) (Nat.zero_le _) ?_
            refine eM_misplaced xg xm (fun h1 g1 => ?_)
            refine jr_aload rfl rfl ?_
            refine jr_cv0 (mc' := 0) (ms' := 0) rfl jm_MD_isGood_n jm_MD_isGood_f rfl rfl rfl rfl rfl rfl rfl (Nat.zero_le _) (Nat.zero_le _) ?_
            show jx_W (jm_MD_isGood, _, _, _, _, _, _) _ 0 0 0 [some _] [] _
            refine jr_aload rfl rfl ?_
            refine jr_getI rfl rfl ?_
            refine jr_if_ne rfl (fun _ => ?_) (fun z => absurd z (by rw [g1.2.2.2.1]; unfold jX_kd; split <;> decide))
            refine jr_ic rfl ?_
            refine jr_zret rfl rfl rfl (Nat.zero_le _) (Nat.zero_le _) ?_
            refine jr_if_ne rfl (fun z => absurd (by decide) z) (fun _ => ?_)
            refine jr_ic rfl ?_
            refine jr_zret rfl rfl rfl (Nat.zero_le _) (Nat.zero_le _) ?_
            exact k h1 g1
        · refine jr_aload rfl rfl ?_
          refine jr_getI rfl rfl ?_
          rw [xv]
          refine jr_ic rfl ?_
          refine jr_icmp_ne rfl (fun c49 => ?_) (fun c49 => ?_)
          · refine jr_ic rfl ?_
            refine jr_ist5 rfl rfl ?_
            refine jr_iload rfl rfl ?_
            refine jr_if_ne rfl (fun _ => ?_) (fun z => absurd z (by decide))
            refine jr_iload rfl rfl ?_
            refine jr_if_ne rfl (fun _ => ?_) (fun z => absurd z (by decide))
            refine jr_aload rfl rfl ?_
            refine jr_getI rfl rfl ?_
            refine jr_ic rfl ?_
            refine jr_icmp_ne rfl (fun c73 => ?_) (fun c73 => ?_)
            · exfalso
              have f8 := jn_nle (show ¬ nI w ≤ nI 3 from c8) (by omega) (by decide)
              have f17 := jn_nlt (show ¬ nI w < nI 7 from c17) (by omega) (by decide)
              have f27 := jf_p c27
              have f45 : ¬ u = 90 := fun z => c45 (by rw [z]; rfl)
              have f49 : ¬ v = 30 := fun z => c49 (by rw [z]; rfl)
              have f73 : ¬ i = 7 := fun z => c73 ((show jh_I h 11 0 46 = nI i from xi).trans (by rw [z]; rfl))
              omega
            · refine jr_aload rfl rfl ?_
              refine jr_cv0 (mc' := 0) (ms' := 0) rfl jm_MD_misplaced_n jm_MD_misplaced_f rfl rfl rfl rfl rfl rfl rfl (Nat.zero_le _) (Nat.zero_le _) ?_
              refine eM_misplaced xg xm (fun h1 g1 => ?_)
              refine jr_aload rfl rfl ?_
              refine jr_cv0 (mc' := 0) (ms' := 0) rfl jm_MD_isGood_n jm_MD_isGood_f rfl rfl rfl rfl rfl rfl rfl (Nat.zero_le _) (Nat.zero_le _) ?_
              show jx_W (jm_MD_isGood, _, _, _, _, _, _) _ 0 0 0 [some _] [] _
              refine jr_aload rfl rfl ?_
              refine jr_getI rfl rfl ?_
              refine jr_if_ne rfl (fun _ => ?_) (fun z => absurd z (by rw [g1.2.2.2.1]; unfold jX_kd; split <;> decide))
              refine jr_ic rfl ?_
              refine jr_zret rfl rfl rfl (Nat.zero_le _) (Nat.zero_le _) ?_
              refine jr_if_ne rfl (fun z => absurd (by decide) z) (fun _ => ?_)
              refine jr_ic rfl ?_
              refine jr_zret rfl rfl rfl (Nat.zero_le _) (Nat.zero_le _) ?_
              exact k h1 g1
          · refine jr_ic rfl ?_
            refine jr_goto rfl ?_
            refine jr_ist5 rfl rfl ?_
            refine jr_iload rfl rfl ?_
            refine jr_if_ne rfl (fun _ => ?_) (fun z => absurd z (by decide))
            refine jr_iload rfl rfl ?_
            refine jr_if_ne rfl (fun _ => ?_) (fun z => absurd z (by decide))
            refine jr_aload rfl rfl ?_
            refine jr_getI rfl rfl ?_
            refine jr_ic rfl ?_
            refine jr_icmp_ne rfl (fun c73 => ?_) (fun c73 => ?_)
            · exfalso
              have f8 := jn_nle (show ¬ nI w ≤ nI 3 from c8) (by omega) (by decide)
              have f17 := jn_nlt (show ¬ nI w < nI 7 from c17) (by omega) (by decide)
              have f27 := jf_p c27
              have f45 : ¬ u = 90 := fun z => c45 (by rw [z]; rfl)
              have f49 := jn_eq (show nI v = nI 30 from c49) (by omega) (by decide)
              have f73 : ¬ i = 7 := fun z => c73 ((show jh_I h 11 0 46 = nI i from xi).trans (by rw [z]; rfl))
              omega
            · refine jr_aload rfl rfl ?_
              refine jr_cv0 (mc' := 0) (ms' := 0) rfl jm_MD_misplaced_n jm_MD_misplaced_f rfl rfl rfl rfl rfl rfl rfl (Nat.zero_le _) (Nat.zero_le _) ?_
              refine eM_misplaced xg xm (fun h1 g1 => ?_)
              refine jr_aload rfl rfl ?_
              refine jr_cv0 (mc' := 0) (ms' := 0) rfl jm_MD_isGood_n jm_MD_isGood_f rfl rfl rfl rfl rfl rfl rfl (Nat.zero_le _) (Nat.zero_le _) ?_
              show jx_W (jm_MD_isGood, _, _, _, _, _, _) _ 0 0 0 [some _] [] _
              refine jr_aload rfl rfl ?_
              refine jr_getI rfl rfl ?_
              refine jr_if_ne rfl (fun _ => ?_) (fun z => absurd z (by rw [g1.2.2.2.1]; unfold jX_kd; split <;> decide))
              refine jr_ic rfl ?_
              refine jr_zret rfl rfl rfl (Nat.zero_le _) (Nat.zero_le _) ?_
              refine jr_if_ne rfl (fun z => absurd (by decide) z) (fun _ => ?_)
              refine jr_ic rfl ?_
              refine jr_zret rfl rfl rfl (Nat.zero_le _) (Nat.zero_le _) ?_
              exact k h1 g1

