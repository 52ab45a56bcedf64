theorem jq_exitF {d n0 : Nat} {Qm : Option jx_V → jx_H → Prop} {h : jx_H} {w : Int32} (hg : ¬ jh_I h 11 0 4 = 0) (k : Qm none h) : jq_HD d n0 Qm w h := by
  show jx_W (jm_MD_e, d + 8, 0, 0, false, 1, n0) Qm 0 0 12 [some (jv_r 11 0), some (jv_i w)] [] h
  refine jr_aload rfl rfl ?_
  refine jr_cv0 (mc' := 0) (ms' := 0) rfl jm_MD_isGood_n jm_MD_isGood_f rfl rfl rfl rfl rfl rfl rfl (Nat.zero_le _) (Nat.zero_le _) ?_
  show jx_W (jm_MD_isGood, _, _, _, _, _, _) _ 0 0 0 [some _] [] _
  refine jr_aload rfl rfl ?_
  refine jr_getI rfl rfl ?_
  refine jr_if_ne rfl (fun _ => ?_) (fun z => absurd z hg)
  refine jr_ic rfl ?_
  refine jr_zret rfl rfl rfl (Nat.zero_le _) (Nat.zero_le _) ?_
  refine jr_if_eq rfl (fun _ => ?_) (fun z => absurd (by decide) z)
  refine jr_vret rfl rfl (Nat.zero_le _) (Nat.zero_le _) ?_
  exact k
theorem jq_exit0 {d n0 : Nat} {Qm : Option jx_V → jx_H → Prop} {h : jx_H} {w : Int32} (hg : jh_I h 11 0 4 = 0) (hl : jh_I h 11 0 47 = nI 0) (k : Qm none h) : jq_HD d n0 Qm w h := by
  show jx_W (jm_MD_e, d + 8, 0, 0, false, 1, n0) Qm 0 0 12 [some (jv_r 11 0), some (jv_i w)] [] h
  refine jr_aload rfl rfl ?_
  refine jr_cv0 (mc' := 0) (ms' := 0) rfl jm_MD_isGood_n jm_MD_isGood_f rfl rfl rfl rfl rfl rfl rfl (Nat.zero_le _) (Nat.zero_le _) ?_
  show jx_W (jm_MD_isGood, _, _, _, _, _, _) _ 0 0 0 [some _] [] _
  refine jr_aload rfl rfl ?_
  refine jr_getI rfl rfl ?_
  refine jr_if_ne rfl (fun z => absurd hg z) (fun _ => ?_)
  refine jr_ic rfl ?_
  refine jr_goto rfl ?_
  refine jr_zret rfl rfl rfl (Nat.zero_le _) (Nat.zero_le _) ?_
  refine jr_if_eq rfl (fun z => absurd z (by decide)) (fun _ => ?_)
  refine jr_aload rfl rfl ?_
  refine jr_getI rfl rfl ?_
  refine jr_if_le rfl (fun _ => ?_) (fun z => absurd (by rw [hl]; decide) z)
  refine jr_vret rfl rfl (Nat.zero_le _) (Nat.zero_le _) ?_
  exact k
/-- the model, between its lines -/
def jXL (h : jx_H) (B : Nat → Int32) (sz β t u c : Nat) (C N : Nat → Int32) : Prop := jX_t h B sz ∧ jT_mc h B sz t ∧ jh_I h 11 0 4 = 0 ∧ jh_I h 11 0 44 = nI β ∧ jh_I h 69 0 β = nI u ∧ jh_I h 11 0 45 = nI (620 * β + c) ∧ jh_I h 93 0 = C ∧ jh_I h 94 0 = N
/-- what a rule may change in the model -/
def jXR (β : Nat) (h h' : jx_H) : Prop := (∀ a b, a ≠ 11 → a ≠ 69 → a ≠ 82 → a ≠ 83 → a ≠ 89 → a ≠ 93 → a ≠ 94 → a ≠ 95 → a ≠ 96 → jh_I h' a b = jh_I h a b) ∧ (∀ a b, a ≠ 11 → jh_L h' a b = jh_L h a b) ∧ h'.2.2 = h.2.2 ∧ (∀ f, f < 4 ∨ (10 < f ∧ f < 45) ∨ 48 < f → jh_I h' 11 0 f = jh_I h 11 0 f) ∧ (∀ q, q ≠ β → jh_I h' 69 0 q = jh_I h 69 0 q)
def jR1 (h : jx_H) (β w : Nat) : jx_H := ju_I (ju_I (ju_I h 11 0 (upd (jh_I h 11 0) 48 0)) 89 0 (upd (jh_I h 89 0) (6 * β + w) 1)) 82 0 (upd (jh_I h 82 0) (6 * β + w) (jh_I h 11 0 45))
def jRa (h : jx_H) (β w : Nat) : jx_H := ju_I (ju_I (jR1 h β w) 11 0 (upd (jh_I (jR1 h β w) 11 0) 47 0)) 11 0 (upd (upd (upd (jh_I h 11 0) 48 0) 47 0) 46 0)
def jR2 (h : jx_H) (β w : Nat) : jx_H := ju_I (ju_I (ju_I (jRa h β w) 95 0 (upd (jh_I h 95 0) 0 8)) 96 0 (upd (jh_I h 96 0) 0 0)) 11 0 (upd (upd (upd (upd (jh_I h 11 0) 48 0) 47 0) 46 0) 47 1)
theorem jX_R2 {h : jx_H} {B : Nat → Int32} {sz β t u c w : Nat} {C N : Nat → Int32} (hx : jXL h B sz β t u c C N) : jX (jR2 h β w) B sz β t u 0 c C N [(8, 0)] 0 := by
  obtain ⟨xt, xm, xg, xb, xu, xc, xC, xN⟩ := hx
  exact ⟨⟨xt.1, xt.2.1, xt.2.2⟩, ⟨xm.1, xm.2.1, xm.2.2.1, xm.2.2.2.1, xm.2.2.2.2⟩, xg, xb, xu, rfl, xc, xC, xN, rfl, ⟨rfl, by decide, rfl, trivial⟩, rfl⟩
theorem jXR_2 {β w c : Nat} {h h' : jx_H} (xc : jh_I h 11 0 45 = nI (620 * β + c)) (f : jX_F β (jR2 h β w) h') : jXR β h h' ∧ jh_I h' 82 0 = upd (jh_I h 82 0) (6 * β + w) (nI (620 * β + c)) ∧ jh_I h' 83 0 = jh_I h 83 0 ∧ jh_I h' 89 0 = upd (jh_I h 89 0) (6 * β + w) 1 := by
  refine ⟨⟨fun a b z1 z2 z3 z4 z5 z6 z7 z8 z9 => ?_, fun a b z1 => f.2.1 a b z1, f.2.2.1, fun x hx => ?_, fun q hq => f.2.2.2.2 q hq⟩, (f.1 82 0 (by decide) (by decide) (by decide) (by decide) (by decide) (by decide)).trans (congrArg (upd (jh_I h 82 0) (6 * β + w)) xc), f.1 83 0 (by decide) (by decide) (by decide) (by decide) (by decide) (by decide), f.1 89 0 (by decide) (by decide) (by decide) (by decide) (by decide) (by decide)⟩
  · refine (f.1 a b z1 z2 z6 z7 z8 z9).trans ?_
    exact (if_neg (fun y => z1 y.1)).trans ((if_neg (fun y => z9 y.1)).trans ((if_neg (fun y => z8 y.1)).trans ((if_neg (fun y => z1 y.1)).trans ((if_neg (fun y => z1 y.1)).trans ((if_neg (fun y => z3 y.1)).trans ((if_neg (fun y => z5 y.1)).trans (if_neg (fun y => z1 y.1))))))))
  · refine (f.2.2.2.1 x hx).trans ?_
    show upd (upd (upd (upd (jh_I h 11 0) 48 0) 47 0) 46 0) 47 1 x = _
    rw [jg_un (by omega), jg_un (by omega), jg_un (by omega), jg_un (by omega)]
set_option maxHeartbeats 800000 in
set_option maxRecDepth 100000 in
theorem eM_rule {d : Nat} {h : jx_H} {Q : Option jx_V → jx_H → Prop} {B : Nat → Int32} {sz β t u c w x t' c' : Nat} {C N D : Nat → Int32}  (hx : jXL h B sz β t u c C N) (hβ : β < 2) (hw : w < 6) (ht : jTd β c D C N) (hTR : jTR B sz β 0 0 1 1 t u 0 c x t' c' D) (kn : jT_rk (jT_K B sz t') = 0 → ∀ (h' : jx_H) (C' N' : Nat → Int32), jXL h' B sz β t' (u + x) c' C' N' → jXR β h h' → jh_I h' 82 0 = upd (jh_I h 82 0) (6 * β + w) (nI (620 * β + c)) → jh_I h' 83 0 = upd (jh_I h 83 0) (6 * β + w) (nI (620 * β + c')) → jh_I h' 89 0 = upd (jh_I h 89 0) (6 * β + w) 1 → jAg β c C N C' N' → jTd β c' D C' N' → (∀ m, m + x ≤ 40 → jw_sg 40 C' (c' - c) (620 * β + c) m (m + 1)) → Q none h') (kd : jT_rk (jT_K B sz t') = 4 → ∀ h' : jx_H, jXR β h h' → (∀ q, q < 6 * β ∨ 6 * β + 6 ≤ q → jh_I h' 82 0 q = jh_I h 82 0 q ∧ jh_I h' 83 0 q = jh_I h 83 0 q ∧ jh_I h' 89 0 q = jh_I h 89 0 q) → jAg β c C N (jh_I h' 93 0) (jh_I h' 94 0) → jh_I h' 11 0 4 = 2 → jPl h' (jT_p B sz t') → Q none h')  : jx_Ev jm_MD_readRule (d + 9) 0 0 false 1 [jv_r 11 0, jv_i (nI w)] h Q := by
  show jx_W (jm_MD_readRule, d + 9, 0, 0, false, 1, _) Q 0 0 0 [some (jv_r 11 0), some (jv_i (nI w))] [] _
  obtain ⟨xt, xm, xg, xb, xu, xc, xC, xN⟩ := id hx
  refine jr_aload rfl rfl ?_
  refine jr_ic rfl ?_
  refine jr_putI rfl rfl ?_
  refine jr_aload rfl rfl ?_
  refine jr_getR rfl rfl rfl rfl (Or.inl rfl) ?_
  refine jr_ic rfl ?_
  refine jr_aload rfl rfl ?_
  refine jr_getI rfl rfl ?_
  refine jr_imul rfl ?_
  refine jr_iload rfl rfl ?_
  refine jr_iadd rfl ?_
  refine jr_ic rfl ?_
  refine jr_zast (len := 12) rfl rfl (jn_add (jn_mul (show _ = nI 6 from rfl) xb) rfl) (by omega) ?_
  refine jr_aload rfl rfl ?_
  refine jr_getR rfl rfl rfl rfl (Or.inl rfl) ?_
  refine jr_ic rfl ?_
  refine jr_aload rfl rfl ?_
  refine jr_getI rfl rfl ?_
  refine jr_imul rfl ?_
  refine jr_iload rfl rfl ?_
  refine jr_iadd rfl ?_
  refine jr_aload rfl rfl ?_
  refine jr_getI rfl rfl ?_
  skip
  refine jr_iast (len := 12) rfl rfl (jn_add (jn_mul (show _ = nI 6 from rfl) xb) rfl) (by omega) ?_
  skip
  refine jr_aload rfl rfl ?_
  refine jr_cv0 (mc' := 0) (ms' := 0) rfl jm_MD_e_n jm_MD_e_f rfl rfl rfl rfl rfl rfl rfl (Nat.zero_le _) (Nat.zero_le _) ?_
  show jx_W (jm_MD_e, _, _, _, _, _, _) _ 0 0 0 [some _, none] [] _
  refine jr_aload rfl rfl ?_
  refine jr_ic rfl ?_
  refine jr_putI rfl rfl ?_
  refine jr_aload rfl rfl ?_
  refine jr_ic rfl ?_
  refine jr_putI rfl rfl ?_
  refine jr_aload rfl rfl ?_
  refine jr_ic rfl ?_
  refine jr_ic rfl ?_
  refine jr_cv2 (mc' := 0) (ms' := 0) rfl jm_MD_pushE_n jm_MD_pushE_f rfl rfl rfl rfl rfl rfl rfl (Nat.zero_le _) (Nat.zero_le _) ?_
  show jx_W (jm_MD_pushE, _, _, _, _, _, _) _ 0 0 0 [some _, some _, some _] [] _
  refine jr_aload rfl rfl ?_
  refine jr_getR rfl rfl rfl rfl (Or.inl rfl) ?_
  refine jr_aload rfl rfl ?_
  refine jr_getI rfl rfl ?_
  refine jr_iload rfl rfl ?_
  refine jr_iast (len := 90) rfl rfl (jn_c 0) (by decide) ?_
  refine jr_aload rfl rfl ?_
  refine jr_getR rfl rfl rfl rfl (Or.inl rfl) ?_
  refine jr_aload rfl rfl ?_
  refine jr_getI rfl rfl ?_
  refine jr_iload rfl rfl ?_
  refine jr_iast (len := 90) rfl rfl (jn_c 0) (by decide) ?_
  refine jr_aload rfl rfl ?_
  refine jr_dup_r rfl ?_
  refine jr_getI rfl rfl ?_
  refine jr_ic rfl ?_
  refine jr_iadd rfl ?_
  refine jr_putI rfl rfl ?_
  refine jr_vret rfl rfl (Nat.zero_le _) (Nat.zero_le _) ?_
  refine jr_ic rfl ?_
  refine jr_ist1 rfl rfl ?_
  show jq_HD d _ _ 1 (jR2 h β w)
  refine hTR d _ _ C N 8 0 [] _ (jX_R2 hx) ⟨hβ, by decide, Or.inl (by decide), Or.inl (by decide), by decide, fun z => absurd z (by decide)⟩ ht (fun e1 e2 m1 C1 N1 x1 f1 a1 d1 s1 => ?_) (fun e1 e2 m1 f1 a1 b1 b2 => ?_)
  · refine jq_end x1 hβ (by decide) rfl (by omega) (fun h2 x2 f2 => ?_)
    obtain ⟨y1, y2, y3, y4, y5, -, y6, y7, y8, y9, -, -⟩ := x2
    refine jq_exit0 y3 y9 ?_
    have g2 := jXR_2 xc (jX_F_t f1 f2)
    refine jr_aload rfl rfl ?_
    refine jr_getR rfl rfl rfl rfl (Or.inl rfl) ?_
    refine jr_ic rfl ?_
    refine jr_aload rfl rfl ?_
    refine jr_getI rfl rfl ?_
    refine jr_imul rfl ?_
    refine jr_iload rfl rfl ?_
    refine jr_iadd rfl ?_
    refine jr_aload rfl rfl ?_
    refine jr_getI rfl rfl ?_
    refine jr_iast (len := 12) rfl rfl (jn_add (jn_mul (show _ = nI 6 from rfl) y4) rfl) (by omega) ?_
    refine jr_vret rfl rfl (Nat.zero_le _) (Nat.zero_le _) ?_
    exact kn (by omega) _ C1 N1 ⟨⟨y1.1, y1.2.1, y1.2.2⟩, ⟨y2.1, y2.2.1, y2.2.2.1, y2.2.2.2.1, y2.2.2.2.2⟩, y3, y4, y5, y6, y7, y8⟩ ⟨fun a b z1 z2 z3 z4 z5 z6 z7 z8 z9 => (if_neg (fun y => z4 y.1)).trans (g2.1.1 a b z1 z2 z3 z4 z5 z6 z7 z8 z9), fun a b z1 => g2.1.2.1 a b z1, g2.1.2.2.1, g2.1.2.2.2.1, g2.1.2.2.2.2⟩ g2.2.1 (by
      show upd (jh_I h2 83 0) (6 * β + w) _ = _
      rw [g2.2.2.1, y6]) g2.2.2.2 a1 d1 s1
  · refine jq_exitF (by rw [b1]; decide) ?_
    have g2 := jXR_2 xc f1
    have y4 : jh_I m1 11 0 44 = nI β := (g2.1.2.2.2.1 44 (by omega)).trans xb
    refine jr_aload rfl rfl ?_
    refine jr_getR rfl rfl rfl rfl (Or.inl rfl) ?_
    refine jr_ic rfl ?_
    refine jr_aload rfl rfl ?_
    refine jr_getI rfl rfl ?_
    refine jr_imul rfl ?_
    refine jr_iload rfl rfl ?_
    refine jr_iadd rfl ?_
    refine jr_aload rfl rfl ?_
    refine jr_getI rfl rfl ?_
    refine jr_iast (len := 12) rfl rfl (jn_add (jn_mul (show _ = nI 6 from rfl) y4) rfl) (by omega) ?_
    refine jr_vret rfl rfl (Nat.zero_le _) (Nat.zero_le _) ?_
    refine kd e1 _ ⟨fun a b z1 z2 z3 z4 z5 z6 z7 z8 z9 => (if_neg (fun y => z4 y.1)).trans (g2.1.1 a b z1 z2 z3 z4 z5 z6 z7 z8 z9), fun a b z1 => g2.1.2.1 a b z1, g2.1.2.2.1, g2.1.2.2.2.1, g2.1.2.2.2.2⟩ (fun q hq => ⟨?_, ?_, ?_⟩) a1 b1 b2
    · exact (congrFun g2.2.1 q).trans (jg_un (by omega))
    · show upd (jh_I m1 83 0) (6 * β + w) _ q = _
      rw [jg_un (by omega), g2.2.2.1]
    · exact (congrFun g2.2.2.2 q).trans (jg_un (by omega))

set_option maxHeartbeats 800000 in
set_option maxRecDepth 100000 in
theorem eM_ruleB {d : Nat} {h : jx_H} {Q : Option jx_V → jx_H → Prop} {B : Nat → Int32} {sz β t u c w x t' c' : Nat} {C N D : Nat → Int32} {kd : Int32} {pl : Nat}  (hx : jXL h B sz β t u c C N) (hβ : β < 2) (hw : w < 6) (ht : jTd β c D C N) (hkd : kd = 1 ∨ kd = 2) (hTB : jTB B sz β 0 0 1 t u 0 c kd pl D) (kb : ∀ h' : jx_H, jXR β h h' → (∀ q, q < 6 * β ∨ 6 * β + 6 ≤ q → jh_I h' 82 0 q = jh_I h 82 0 q ∧ jh_I h' 83 0 q = jh_I h 83 0 q ∧ jh_I h' 89 0 q = jh_I h 89 0 q) → jAg β c C N (jh_I h' 93 0) (jh_I h' 94 0) → jh_I h' 11 0 4 = kd → jPl h' pl → Q none h')  : jx_Ev jm_MD_readRule (d + 9) 0 0 false 1 [jv_r 11 0, jv_i (nI w)] h Q := by
  show jx_W (jm_MD_readRule, d + 9, 0, 0, false, 1, _) Q 0 0 0 [some (jv_r 11 0), some (jv_i (nI w))] [] _
  obtain ⟨xt, xm, xg, xb, xu, xc, xC, xN⟩ := id hx
  refine jr_aload rfl rfl ?_
  refine jr_ic rfl ?_
  refine jr_putI rfl rfl ?_
  refine jr_aload rfl rfl ?_
  refine jr_getR rfl rfl rfl rfl (Or.inl rfl) ?_
  refine jr_ic rfl ?_
  refine jr_aload rfl rfl ?_
  refine jr_getI rfl rfl ?_
  refine jr_imul rfl ?_
  refine jr_iload rfl rfl ?_
  refine jr_iadd rfl ?_
  refine jr_ic rfl ?_
  refine jr_zast (len := 12) rfl rfl (jn_add (jn_mul (show _ = nI 6 from rfl) xb) rfl) (by omega) ?_
  refine jr_aload rfl rfl ?_
  refine jr_getR rfl rfl rfl rfl (Or.inl rfl) ?_
  refine jr_ic rfl ?_
  refine jr_aload rfl rfl ?_
  refine jr_getI rfl rfl ?_
  refine jr_imul rfl ?_
  refine jr_iload rfl rfl ?_
  refine jr_iadd rfl ?_
  refine jr_aload rfl rfl ?_
  refine jr_getI rfl rfl ?_
  skip
  refine jr_iast (len := 12) rfl rfl (jn_add (jn_mul (show _ = nI 6 from rfl) xb) rfl) (by omega) ?_
  skip
  refine jr_aload rfl rfl ?_
  refine jr_cv0 (mc' := 0) (ms' := 0) rfl jm_MD_e_n jm_MD_e_f rfl rfl rfl rfl rfl rfl rfl (Nat.zero_le _) (Nat.zero_le _) ?_
  show jx_W (jm_MD_e, _, _, _, _, _, _) _ 0 0 0 [some _, none] [] _
  refine jr_aload rfl rfl ?_
  refine jr_ic rfl ?_
  refine jr_putI rfl rfl ?_
  refine jr_aload rfl rfl ?_
  refine jr_ic rfl ?_
  refine jr_putI rfl rfl ?_
  refine jr_aload rfl rfl ?_
  refine jr_ic rfl ?_
  refine jr_ic rfl ?_
  refine jr_cv2 (mc' := 0) (ms' := 0) rfl jm_MD_pushE_n jm_MD_pushE_f rfl rfl rfl rfl rfl rfl rfl (Nat.zero_le _) (Nat.zero_le _) ?_
  show jx_W (jm_MD_pushE, _, _, _, _, _, _) _ 0 0 0 [some _, some _, some _] [] _
  refine jr_aload rfl rfl ?_
  refine jr_getR rfl rfl rfl rfl (Or.inl rfl) ?_
  refine jr_aload rfl rfl ?_
  refine jr_getI rfl rfl ?_
  refine jr_iload rfl rfl ?_
  refine jr_iast (len := 90) rfl rfl (jn_c 0) (by decide) ?_
  refine jr_aload rfl rfl ?_
  refine jr_getR rfl rfl rfl rfl (Or.inl rfl) ?_
  refine jr_aload rfl rfl ?_
  refine jr_getI rfl rfl ?_
  refine jr_iload rfl rfl ?_
  refine jr_iast (len := 90) rfl rfl (jn_c 0) (by decide) ?_
  refine jr_aload rfl rfl ?_
  refine jr_dup_r rfl ?_
  refine jr_getI rfl rfl ?_
  refine jr_ic rfl ?_
  refine jr_iadd rfl ?_
  refine jr_putI rfl rfl ?_
  refine jr_vret rfl rfl (Nat.zero_le _) (Nat.zero_le _) ?_
  refine jr_ic rfl ?_
  refine jr_ist1 rfl rfl ?_
  show jq_HD d _ _ 1 (jR2 h β w)
  refine hTB d _ _ C N 8 0 [] _ (jX_R2 hx) ⟨hβ, by decide, Or.inl (by decide), Or.inl (by decide), by decide, fun z => absurd z (by decide)⟩ ht (fun m1 w1 f1 a1 b1 b2 => ?_)
  refine jq_exitF (by rcases hkd with z | z <;> rw [b1, z] <;> decide) ?_
  have g2 := jXR_2 xc f1
  have y4 : jh_I m1 11 0 44 = nI β := (g2.1.2.2.2.1 44 (by omega)).trans xb
  refine jr_aload rfl rfl ?_
  refine jr_getR rfl rfl rfl rfl (Or.inl rfl) ?_
  refine jr_ic rfl ?_
  refine jr_aload rfl rfl ?_
  refine jr_getI rfl rfl ?_
  refine jr_imul rfl ?_
  refine jr_iload rfl rfl ?_
  refine jr_iadd rfl ?_
  refine jr_aload rfl rfl ?_
  refine jr_getI rfl rfl ?_
  refine jr_iast (len := 12) rfl rfl (jn_add (jn_mul (show _ = nI 6 from rfl) y4) rfl) (by omega) ?_
  refine jr_vret rfl rfl (Nat.zero_le _) (Nat.zero_le _) ?_
  refine kb _ ⟨fun a b z1 z2 z3 z4 z5 z6 z7 z8 z9 => (if_neg (fun y => z4 y.1)).trans (g2.1.1 a b z1 z2 z3 z4 z5 z6 z7 z8 z9), fun a b z1 => g2.1.2.1 a b z1, g2.1.2.2.1, g2.1.2.2.2.1, g2.1.2.2.2.2⟩ (fun q hq => ⟨?_, ?_, ?_⟩) a1 b1 b2
  · exact (congrFun g2.2.1 q).trans (jg_un (by omega))
  · show upd (jh_I m1 83 0) (6 * β + w) _ q = _
    rw [jg_un (by omega), g2.2.2.1]
  · exact (congrFun g2.2.2.2 q).trans (jg_un (by omega))

