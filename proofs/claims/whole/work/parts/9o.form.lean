/-- what a formula's reading may change in the class -/
def jGF (ρ w c : Nat) (h h' : jx_H) : Prop := (∀ a b, a ≠ 9 → a ≠ 6 → ¬ (a = 7 ∧ b = ρ) → ¬ (a = 25 ∧ b = ρ) → ¬ (a = 26 ∧ b = ρ) → ¬ (a = 27 ∧ b = ρ) → jh_I h' a b = jh_I h a b) ∧ (∀ a b, a ≠ 9 → jh_L h' a b = jh_L h a b) ∧ h'.2.2 = h.2.2 ∧ (∀ f, f < 7 → jh_I h' 9 0 f = jh_I h 9 0 f) ∧ (∀ f, f < 6 → jh_I h' 6 0 f = jh_I h 6 0 f) ∧ (∀ f, f ≠ 12 → f ≠ 13 → f ≠ 15 → jh_I h' 7 ρ f = jh_I h 7 ρ f) ∧ (∀ q, q < c → jh_I h' 25 ρ q = jh_I h 25 ρ q) ∧ jh_I h' 26 ρ = upd (jh_I h 26 ρ) w (nI c) ∧ (∀ q, q ≠ w → jh_I h' 27 ρ q = jh_I h 27 ρ q)
theorem jGF_CF {ρ w c : Nat} {h0 h h' : jx_H} (f : jCF ρ h0 h) (g : jGF ρ w c h h') : jCF ρ h0 h' := ⟨fun a b z1 z2 z3 z4 => (g.1 a b z1 z2 (fun y => z3 ⟨y.2, Or.inl y.1⟩) (fun y => z3 ⟨y.2, by omega⟩) (fun y => z3 ⟨y.2, by omega⟩) (fun y => z3 ⟨y.2, by omega⟩)).trans (f.1 a b z1 z2 z3 z4), fun a b z1 z2 z3 z4 => (g.2.1 a b z1).trans (f.2.1 a b z1 z2 z3 z4), g.2.2.1.trans f.2.2.1, fun x z => (g.2.2.2.1 x z).trans (f.2.2.2 x z)⟩
def jF0 (h : jx_H) (ρ w c : Nat) : jx_H := ju_I (ju_I h 6 0 (upd (jh_I h 6 0) 6 0)) 26 ρ (upd (jh_I h 26 ρ) w (nI c))
def jF1 (h : jx_H) (ρ w c : Nat) : jx_H := ju_I h 27 ρ (upd (jh_I h 27 ρ) w (nI c))
theorem jF0_Z {h : jx_H} {B : Nat → Int32} {sz T ρ t u c w : Nat} (z : jTS h B sz T t) (hρ : jh_M h 6 0 4 = ρ + 1) (h12 : jh_I h 7 ρ 12 = nI u) (h15 : jh_I h 7 ρ 15 = nI c) (ha : jh_I h 7 ρ 13 = 0 ∧ (∀ q, q < c → jh_I h 25 ρ q ≠ -102 ∧ jh_I h 25 ρ q ≠ -103) ∨ jh_I h 7 ρ 13 = 1) : jZ (jF0 h ρ w c) B sz T ρ t u 0 c := ⟨z.1, z.2.1, z.2.2, hρ, h12, rfl, h15, ha⟩
theorem jGF_mk {ρ w c c' : Nat} {h h4 : jx_H} (f : jZ_F ρ c (jF0 h ρ w c) h4) : jGF ρ w c h (jF1 h4 ρ w c') := by
  refine ⟨fun a b z1 z2 z3 z4 z5 z6 => (if_neg z6).trans ((f.1 a b z1 z2 z3 z4).trans ((if_neg z5).trans (if_neg (fun y => z2 y.1)))), fun a b z1 => f.2.1 a b z1, f.2.2.1, f.2.2.2.1, fun x hx => (f.2.2.2.2.1 x hx).trans ((jg_un (by omega) : upd (jh_I h 6 0) 6 0 x = _)), f.2.2.2.2.2.1, f.2.2.2.2.2.2, ?_, fun q hq => ?_⟩
  · exact (f.1 26 ρ (by decide) (by decide) (fun y => absurd y.1 (by decide)) (fun y => absurd y.1 (by decide))).trans (jg_II _ _ _ _)
  · unfold jF1
    rw [jg_II, jg_un hq, f.1 27 ρ (by decide) (by decide) (fun y => absurd y.1 (by decide)) (fun y => absurd y.1 (by decide))]
    rfl
theorem jGF_Z {ρ w c : Nat} {h0 h h4 : jx_H} (f : jZ_F ρ c (jF0 h ρ w c) h4) (g : jCF ρ h0 h) : jCF ρ h0 h4 := ⟨fun a b z1 z2 z3 z4 => (f.1 a b z1 z2 (fun y => z3 ⟨y.2, Or.inl y.1⟩) (fun y => z3 ⟨y.2, by omega⟩)).trans ((if_neg (fun y => z3 ⟨y.2, by omega⟩)).trans ((if_neg (fun y => z2 y.1)).trans (g.1 a b z1 z2 z3 z4))), fun a b z1 z2 z3 z4 => (f.2.1 a b z1).trans (g.2.1 a b z1 z2 z3 z4), f.2.2.1.trans g.2.2.1, fun x z => (f.2.2.2.1 x z).trans (g.2.2.2 x z)⟩
set_option maxHeartbeats 800000 in
set_option maxRecDepth 100000 in
theorem ev_formula {d : Nat} {h : jx_H} {Q : Option jx_V → jx_H → Prop} {B : Nat → Int32} {sz T β ρ t u c w : Nat} (z : jTS h B sz T t) (hρ : jh_M h 6 0 4 = ρ + 1) (h12 : jh_I h 7 ρ 12 = nI u) (h15 : jh_I h 7 ρ 15 = nI c) (ha : jh_I h 7 ρ 13 = 0 ∧ (∀ q, q < c → jh_I h 25 ρ q ≠ -102 ∧ jh_I h 25 ρ q ≠ -103) ∨ jh_I h 7 ρ 13 = 1) (hw : w < 6) (hb : jBd B sz t u 0 c) (k1 : ∀ x t' c' h', 1 ≤ x → u + x ≤ 90 → x ≤ 30 → c ≤ c' → 8 * u + jT_p B sz t + 4 * c' ≤ 8 * (u + x) + jT_p B sz t' + 4 * c → jTS h' B sz T t' → jh_I h' 7 ρ 12 = nI (u + x) → jh_I h' 7 ρ 15 = nI c' → (jh_I h' 7 ρ 13 = 0 ∧ (∀ q, q < c' → jh_I h' 25 ρ q ≠ -102 ∧ jh_I h' 25 ρ q ≠ -103) ∨ jh_I h' 7 ρ 13 = 1) → (jT_rk (jT_K B sz t') = 0 ∨ jT_rk (jT_K B sz t') = 4) → jTR B sz β 0 0 1 1 t u 0 c x t' c' (jh_I h' 25 ρ) → jGF ρ w c h h' → jh_I h' 27 ρ w = nI c' → Q (some (jv_i 1)) h') (k0 : ∀ kd pl h', jh_I h' 6 0 8 = kd → jh_I h' 6 0 9 = nI pl → ((kd = 1 ∨ kd = 2) ∧ pl ≤ sz) → jTB B sz β 0 0 1 t u 0 c kd pl (jh_I h' 25 ρ) → (∀ q, q < c → jh_I h' 25 ρ q = jh_I h 25 ρ q) → (∀ h0, jCF ρ h0 h → jCF ρ h0 h') → Q (some (jv_i 0)) h')  : jx_Ev jm_Rdr_readFormula (d + 84) 0 0 false 0 [jv_r 6 0, jv_i (nI w)] h Q := by
  show jx_W (jm_Rdr_readFormula, d + 84, 0, 0, false, 0, _) Q 0 0 0 [some (jv_r 6 0), some (jv_i (nI w)), none] [] _
  have zz := jF0_Z (w := w) z hρ h12 h15 ha
  refine jr_aload rfl rfl ?_
  refine jr_ic rfl ?_
  refine jr_putI rfl rfl ?_
  refine jr_aload rfl rfl ?_
  refine jr_getM rfl rfl rfl rfl hρ ?_
  refine jr_iload rfl rfl ?_
  refine jr_cv1 (mc' := 0) (ms' := 0) rfl jm_Rep_beginFormula_n jm_Rep_beginFormula_f rfl rfl rfl rfl rfl rfl rfl (Nat.zero_le _) (Nat.zero_le _) ?_
  show jx_W (jm_Rep_beginFormula, _, _, _, _, _, _) _ 0 0 0 [some _, some _] [] _
  refine jr_iload rfl rfl ?_
  refine jr_if_lt rfl (fun z => absurd z (nI_pos (by omega))) (fun _ => ?_)
  refine jr_iload rfl rfl ?_
  refine jr_aload rfl rfl ?_
  refine jr_getR rfl rfl rfl rfl (Or.inl rfl) ?_
  refine jr_alen (so := 1) (len := 6) rfl rfl rfl rfl ?_
  refine jr_icmp_ge rfl (fun z => absurd z (nI_ge (a := w) (b := 6) hw (by decide))) (fun _ => ?_)
  refine jr_aload rfl rfl ?_
  refine jr_getR rfl rfl rfl rfl (Or.inl rfl) ?_
  refine jr_iload rfl rfl ?_
  refine jr_aload rfl rfl ?_
  refine jr_getI rfl rfl ?_
  rw [show jh_I (ju_I h 6 0 (upd (jh_I h 6 0) 6 0)) 7 ρ 15 = nI c from h15]
  refine jr_iast (len := 6) rfl rfl rfl (by omega) ?_
  refine jr_vret rfl rfl (Nat.zero_le _) (Nat.zero_le _) ?_
  refine jr_aload rfl rfl ?_
  refine jr_ic rfl ?_
  refine jr_ic rfl ?_
  refine jr_cv2 (mc' := 0) (ms' := 0) rfl jm_Rdr_readChain_n jm_Rdr_readChain_f rfl rfl rfl rfl rfl rfl rfl (Nat.zero_le _) (Nat.zero_le _) ?_
  rw [show d + 83 = d + 10 * 7 + 13 by omega]
  refine (jALL (B := B) (sz := sz) (T := T) (β := β) (ρ := ρ) 7).1 d (jF0 h ρ w c) t u 0 c 0 _ zz (by omega) hb (fun r h4 o4 => ?_)
  rcases o4 with ⟨rfl, x, t1, c1, y1, y2, y3, y4, y5, y6, y7, y8, y9⟩ | ⟨rfl, kd, pl, y1, y2, y3, y4, y5⟩
  · refine jr_ist2 rfl rfl ?_
    refine jr_aload rfl rfl ?_
    refine jr_getM rfl rfl rfl rfl y1.2.2.2.1 ?_
    refine jr_iload rfl rfl ?_
    refine jr_cv1 (mc' := 0) (ms' := 0) rfl jm_Rep_endFormula_n jm_Rep_endFormula_f rfl rfl rfl rfl rfl rfl rfl (Nat.zero_le _) (Nat.zero_le _) ?_
    show jx_W (jm_Rep_endFormula, _, _, _, _, _, _) _ 0 0 0 [some _, some _] [] _
    refine jr_iload rfl rfl ?_
    refine jr_if_lt rfl (fun z => absurd z (nI_pos (by omega))) (fun _ => ?_)
    refine jr_iload rfl rfl ?_
    refine jr_aload rfl rfl ?_
    refine jr_getR rfl rfl rfl rfl (Or.inl rfl) ?_
    refine jr_alen (so := 1) (len := 6) rfl rfl rfl rfl ?_
    refine jr_icmp_ge rfl (fun z => absurd z (nI_ge (a := w) (b := 6) hw (by decide))) (fun _ => ?_)
    refine jr_aload rfl rfl ?_
    refine jr_getR rfl rfl rfl rfl (Or.inl rfl) ?_
    refine jr_iload rfl rfl ?_
    refine jr_aload rfl rfl ?_
    refine jr_getI rfl rfl ?_
    rw [show jh_I h4 7 ρ 15 = nI c1 from y1.2.2.2.2.2.2.1]
    refine jr_iast (len := 6) rfl rfl rfl (by omega) ?_
    refine jr_vret rfl rfl (Nat.zero_le _) (Nat.zero_le _) ?_
    refine jr_iload rfl rfl ?_
    refine jr_zret rfl rfl rfl (Nat.zero_le _) (Nat.zero_le _) ?_
    exact k1 x t1 c1 (jF1 h4 ρ w c1) y4 y5 (by omega) y3 (by omega) ⟨y1.1, y1.2.1, y1.2.2.1⟩ y1.2.2.2.2.1 y1.2.2.2.2.2.2.1 y1.2.2.2.2.2.2.2 (by omega) y9 (jGF_mk y2) (by unfold jF1; rw [jg_II, jg_us])
  · refine jr_ist2 rfl rfl ?_
    refine jr_aload rfl rfl ?_
    refine jr_getM rfl rfl rfl rfl (show jh_M h4 6 0 4 = ρ + 1 from (congrFun (congrFun (congrFun (congrArg (·.1) y4.2.2.1) 6) 0) 4).trans hρ) ?_
    refine jr_iload rfl rfl ?_
    refine jr_cv1 (mc' := 0) (ms' := 0) rfl jm_Rep_endFormula_n jm_Rep_endFormula_f rfl rfl rfl rfl rfl rfl rfl (Nat.zero_le _) (Nat.zero_le _) ?_
    show jx_W (jm_Rep_endFormula, _, _, _, _, _, _) _ 0 0 0 [some _, some _] [] _
    refine jr_iload rfl rfl ?_
    refine jr_if_lt rfl (fun z => absurd z (nI_pos (by omega))) (fun _ => ?_)
    refine jr_iload rfl rfl ?_
    refine jr_aload rfl rfl ?_
    refine jr_getR rfl rfl rfl rfl (Or.inl rfl) ?_
    refine jr_alen (so := 1) (len := 6) rfl rfl rfl rfl ?_
    refine jr_icmp_ge rfl (fun z => absurd z (nI_ge (a := w) (b := 6) hw (by decide))) (fun _ => ?_)
    refine jr_aload rfl rfl ?_
    refine jr_getR rfl rfl rfl rfl (Or.inl rfl) ?_
    refine jr_iload rfl rfl ?_
    refine jr_aload rfl rfl ?_
    refine jr_getI rfl rfl ?_
    refine jr_iast (len := 6) rfl rfl rfl (by omega) ?_
    refine jr_vret rfl rfl (Nat.zero_le _) (Nat.zero_le _) ?_
    refine jr_iload rfl rfl ?_
    refine jr_zret rfl rfl rfl (Nat.zero_le _) (Nat.zero_le _) ?_
    exact k0 kd pl _ y1 y2 y3 y5 (fun q hq => y4.2.2.2.2.2.2 q hq) (fun h0 f => jCF_I (jGF_Z (w := w) y4 f) (by decide))

