theorem jq_cc {a c e : Nat} (h : jx_H) (F G K : Nat → Int32) (k : Nat) (x : Int32) (e1 : a ≠ c) (e2 : a ≠ e) : ju_I (ju_I (ju_I (ju_I h a 0 F) c 0 G) e 0 K) a 0 (upd (jh_I (ju_I (ju_I (ju_I h a 0 F) c 0 G) e 0 K) a 0) k x) = ju_I (ju_I (ju_I h a 0 (upd F k x)) c 0 G) e 0 K := by
  rw [show jh_I (ju_I (ju_I (ju_I h a 0 F) c 0 G) e 0 K) a 0 = F from (if_neg (fun z => e2 z.1)).trans ((if_neg (fun z => e1 z.1)).trans (jg_II h a 0 F))]
  unfold ju_I
  refine congrArg (·, h.2) ?_
  funext u v
  dsimp only
  by_cases e0 : u = a ∧ v = 0
  · rw [if_pos e0, if_neg (fun z => e2 (e0.1.symm.trans z.1)), if_neg (fun z => e1 (e0.1.symm.trans z.1)), if_pos e0]
  · rw [if_neg e0, if_neg e0]
    split
    · rfl
    · split <;> rfl
set_option maxHeartbeats 800000 in
set_option maxRecDepth 100000 in
theorem lp_bc1 {d n0 : Nat} {Q : Option jx_V → jx_H → Prop} {h : jx_H} {ρ : Nat} (i : Nat) (F G : Nat → Int32) (hi : i ≤ 5) (hF : ∀ j, j < i → F j = 0 ∧ G j = jh_I h 23 ρ j) (kk : ∀ (F' G' : Nat → Int32) (y : jx_V), (∀ j, j < 5 → F' j = 0 ∧ G' j = jh_I h 23 ρ j) → jx_W (jm_Cal_begin, d + 1, 0, 0, false, 0, n0) Q 0 0 29 [some (jv_r 1 0), some (jv_r 7 ρ), some y] [] (ju_I (ju_I h 32 0 F') 33 0 G'))  : jx_W (jm_Cal_begin, d + 1, 0, 0, false, 0, n0) Q 0 0 11 [some (jv_r 1 0), some (jv_r 7 ρ), some (jv_i (nI i))] [] (ju_I (ju_I h 32 0 F) 33 0 G) := by
  refine jr_iload rfl rfl ?_
  refine jr_ic rfl ?_
  refine jr_icmp_ge rfl (fun c13 => ?_) (fun c13 => ?_)
  · exact kk F G _ (fun j hj => hF j (by have := jn_le (show nI 5 ≤ nI i from c13) (by omega) (by omega); omega))
  · have hi1 : i < 5 := jn_nle (show ¬ nI 5 ≤ nI i from c13) (by omega) (by omega)
    refine jr_aload rfl rfl ?_
    refine jr_getR rfl rfl rfl rfl (Or.inl rfl) ?_
    refine jr_iload rfl rfl ?_
    refine jr_ic rfl ?_
    refine jr_iast (len := 5) rfl rfl rfl (by omega) ?_
    rw [jq_c _ _ _ _ _ (by decide)]
    refine jr_aload rfl rfl ?_
    refine jr_getR rfl rfl rfl rfl (Or.inl rfl) ?_
    refine jr_iload rfl rfl ?_
    refine jr_aload rfl rfl ?_
    refine jr_getR rfl rfl rfl rfl (Or.inl rfl) ?_
    refine jr_iload rfl rfl ?_
    refine jr_iald (len := 5) rfl rfl rfl (by omega) ?_
    refine jr_iast (len := 5) rfl rfl rfl (by omega) ?_
    rw [jq_up]
    refine jr_iinc2 rfl rfl ?_
    refine jr_goto rfl ?_
    rw [jn_S]
    exact lp_bc1 (i + 1) (upd F i 0) (upd G i _) (by omega) (fun j hj => by
      by_cases e : j = i
      · subst e
        rw [jg_us, jg_us]
        exact ⟨rfl, rfl⟩
      · rw [jg_un e, jg_un e]
        exact hF j (by omega)) kk
termination_by 5 - i
decreasing_by all_goals omega

set_option maxHeartbeats 800000 in
set_option maxRecDepth 100000 in
theorem lp_bc2 {d n0 : Nat} {Q : Option jx_V → jx_H → Prop} {h : jx_H} {ρ : Nat} (i : Nat) (F G K : Nat → Int32) (hi : i ≤ 12) (hF : ∀ j, j < i → F j = 0 ∧ G j = 0 ∧ K j = 0) (kk : ∀ (F' G' K' : Nat → Int32), (∀ j, j < 12 → F' j = 0 ∧ G' j = 0 ∧ K' j = 0) → Q none (ju_I (ju_I (ju_I h 34 0 F') 35 0 G') 36 0 K'))  : jx_W (jm_Cal_begin, d + 1, 0, 0, false, 0, n0) Q 0 0 31 [some (jv_r 1 0), some (jv_r 7 ρ), some (jv_i (nI i))] [] (ju_I (ju_I (ju_I h 34 0 F) 35 0 G) 36 0 K) := by
  refine jr_iload rfl rfl ?_
  refine jr_ic rfl ?_
  refine jr_icmp_ge rfl (fun c33 => ?_) (fun c33 => ?_)
  · refine jr_vret rfl rfl (Nat.zero_le _) (Nat.zero_le _) ?_
    exact kk F G K (fun j hj => hF j (by have := jn_le (show nI 12 ≤ nI i from c33) (by omega) (by omega); omega))
  · have hi1 : i < 12 := jn_nle (show ¬ nI 12 ≤ nI i from c33) (by omega) (by omega)
    refine jr_aload rfl rfl ?_
    refine jr_getR rfl rfl rfl rfl (Or.inl rfl) ?_
    refine jr_iload rfl rfl ?_
    refine jr_ic rfl ?_
    refine jr_iast (len := 12) rfl rfl rfl (by omega) ?_
    rw [jq_cc _ _ _ _ _ _ (by decide) (by decide)]
    refine jr_aload rfl rfl ?_
    refine jr_getR rfl rfl rfl rfl (Or.inl rfl) ?_
    refine jr_iload rfl rfl ?_
    refine jr_ic rfl ?_
    refine jr_iast (len := 12) rfl rfl rfl (by omega) ?_
    rw [jq_c _ _ _ _ _ (by decide)]
    refine jr_aload rfl rfl ?_
    refine jr_getR rfl rfl rfl rfl (Or.inl rfl) ?_
    refine jr_iload rfl rfl ?_
    refine jr_ic rfl ?_
    refine jr_zast (len := 12) rfl rfl rfl (by omega) ?_
    rw [jq_up]
    refine jr_iinc2 rfl rfl ?_
    refine jr_goto rfl ?_
    rw [jn_S]
    exact lp_bc2 (i + 1) (upd F i 0) (upd G i 0) (upd K i _) (by omega) (fun j hj => by
      by_cases e : j = i
      · subst e
        rw [jg_us, jg_us, jg_us]
        exact ⟨rfl, rfl, rfl⟩
      · rw [jg_un e, jg_un e, jg_un e]
        exact hF j (by omega)) kk
termination_by 12 - i
decreasing_by all_goals omega

/-- the class's own calendar, begun with republic ρ -/
def jBG (ρ : Nat) (h h' : jx_H) : Prop := (∀ a b, ¬ (b = 0 ∧ (a = 1 ∨ (32 ≤ a ∧ a ≤ 36))) → jh_I h' a b = jh_I h a b) ∧ h'.2.1 = h.2.1 ∧ (∀ a b, ¬ (a = 1 ∧ b = 0) → jh_M h' a b = jh_M h a b) ∧ jh_n h' = jh_n h ∧
  jh_M h' 1 0 0 = ρ + 1 ∧ jh_I h' 1 0 2 = 0 ∧ jh_I h' 1 0 3 = 0 ∧ (∀ p, p < 5 → jh_I h' 32 0 p = 0 ∧ jh_I h' 33 0 p = jh_I h 23 ρ p) ∧ (∀ d, d < 12 → jh_I h' 34 0 d = 0 ∧ jh_I h' 35 0 d = 0 ∧ jh_I h' 36 0 d = 0)
set_option maxHeartbeats 800000 in
set_option maxRecDepth 100000 in
theorem ev_begin {d : Nat} {h : jx_H} {Q : Option jx_V → jx_H → Prop} {ρ : Nat} (k : ∀ h', jBG ρ h h' → Q none h')  : jx_Ev jm_Cal_begin (d + 1) 0 0 false 0 [jv_r 1 0, jv_r 7 ρ] h Q := by
  show jx_W (jm_Cal_begin, d + 1, 0, 0, false, 0, _) Q 0 0 0 [some (jv_r 1 0), some (jv_r 7 ρ), none] [] _
  refine jr_aload rfl rfl ?_
  refine jr_aload rfl rfl ?_
  refine jr_putM rfl rfl rfl rfl ?_
  refine jr_aload rfl rfl ?_
  refine jr_ic rfl ?_
  refine jr_putI rfl rfl ?_
  rw [show jh_I (ju_M h 1 0 (va_up (jh_M h 1 0) 0 (ρ + 1))) 1 0 = jh_I h 1 0 from rfl]
  refine jr_aload rfl rfl ?_
  refine jr_ic rfl ?_
  refine jr_putI rfl rfl ?_
  rw [jq_up]
  refine jr_ic rfl ?_
  refine jr_ist2 rfl rfl ?_
  have e0 := lp_bc1 (d := d) (n0 := jh_n h) (Q := Q) (h := (ju_I (ju_M h 1 0 (va_up (jh_M h 1 0) 0 (ρ + 1))) 1 0 (upd (upd (jh_I h 1 0) 2 0) 3 0))) (ρ := ρ) 0 (jh_I (ju_I (ju_M h 1 0 (va_up (jh_M h 1 0) 0 (ρ + 1))) 1 0 (upd (upd (jh_I h 1 0) 2 0) 3 0)) 32 0) (jh_I (ju_I (ju_M h 1 0 (va_up (jh_M h 1 0) 0 (ρ + 1))) 1 0 (upd (upd (jh_I h 1 0) 2 0) 3 0)) 33 0) (by omega) (fun j hj => absurd hj (Nat.not_lt_zero _)) (fun F G y hF => ?_)
  · rw [jg_self, jg_self] at e0
    exact e0
  refine jr_ic rfl ?_
  refine jr_ist2 rfl rfl ?_
  have e1 := lp_bc2 (d := d) (n0 := jh_n h) (Q := Q) (h := ju_I (ju_I (ju_I (ju_M h 1 0 (va_up (jh_M h 1 0) 0 (ρ + 1))) 1 0 (upd (upd (jh_I h 1 0) 2 0) 3 0)) 32 0 F) 33 0 G) (ρ := ρ) 0 (jh_I (ju_I (ju_I (ju_I (ju_M h 1 0 (va_up (jh_M h 1 0) 0 (ρ + 1))) 1 0 (upd (upd (jh_I h 1 0) 2 0) 3 0)) 32 0 F) 33 0 G) 34 0) (jh_I (ju_I (ju_I (ju_I (ju_M h 1 0 (va_up (jh_M h 1 0) 0 (ρ + 1))) 1 0 (upd (upd (jh_I h 1 0) 2 0) 3 0)) 32 0 F) 33 0 G) 35 0) (jh_I (ju_I (ju_I (ju_I (ju_M h 1 0 (va_up (jh_M h 1 0) 0 (ρ + 1))) 1 0 (upd (upd (jh_I h 1 0) 2 0) 3 0)) 32 0 F) 33 0 G) 36 0) (by omega) (fun j hj => absurd hj (Nat.not_lt_zero _)) (fun F2 G2 K2 hF2 => ?_)
  · rw [jg_self, jg_self, jg_self] at e1
    exact e1
  exact k (ju_I (ju_I (ju_I (ju_I (ju_I (ju_I (ju_M h 1 0 (va_up (jh_M h 1 0) 0 (ρ + 1))) 1 0 (upd (upd (jh_I h 1 0) 2 0) 3 0)) 32 0 F) 33 0 G) 34 0 F2) 35 0 G2) 36 0 K2) ⟨fun a b z => (if_neg (fun y => z ⟨y.2, by omega⟩)).trans ((if_neg (fun y => z ⟨y.2, by omega⟩)).trans ((if_neg (fun y => z ⟨y.2, by omega⟩)).trans ((if_neg (fun y => z ⟨y.2, by omega⟩)).trans ((if_neg (fun y => z ⟨y.2, by omega⟩)).trans (if_neg (fun y => z ⟨y.2, by omega⟩)))))), rfl, fun a b z => if_neg z, rfl, rfl, rfl, rfl, fun p hp => hF p hp, fun q hq => hF2 q hq⟩

/-- what a faulted text leaves of the class -/
def jFR (r : Nat) (h h' : jx_H) : Prop := (∀ a b, a ≠ 9 → a ≠ 6 → a ≠ 18 → a ≠ 19 → ¬ (b = 1 - r ∧ (a = 7 ∨ (21 ≤ a ∧ a ≤ 27))) → ¬ (a = 2 ∧ 12 * (1 - r) ≤ b ∧ b < 12 * (1 - r) + 12) → jh_I h' a b = jh_I h a b) ∧ (∀ a b, a ≠ 9 → a ≠ 20 → a ≠ 28 → a ≠ 29 → a ≠ 30 → jh_L h' a b = jh_L h a b) ∧ (∀ a b, a ≠ 6 → jh_M h' a b = jh_M h a b)
theorem jFR_mk {r : Nat} {h h2 h3 : jx_H} (K : jKF (1 - r) h h2) (f : jCF (1 - r) h2 h3) : jFR r h h3 := ⟨fun a b z9 z6 z18 z19 zr z2 => (f.1 a b z9 z6 zr z2).trans (K.1 a b z9 z6 z18 z19 (fun y => zr ⟨y.1, by omega⟩)), fun a b z9 z20 z28 z29 z30 => (f.2.1 a b z9 z28 z29 z30).trans (K.2.1 a b z9 z20), fun a b z6 => (congrFun (congrFun (congrArg (·.1) f.2.2.1) a) b).trans (K.2.2.1 a b z6)⟩
/-- what a faulted text leaves of the model -/
theorem jBk_mk {b : Nat} {h h0 h' : jx_H} (hb : b < 2) (p : jRpre h h0 (1 - b)) (f : jMF (1 - b) h0 h') : jBk b h h' := fun a q h1 h2 h3 h4 => by
  have e : q < jwd a * (1 - b) ∨ jwd a * (1 - b) + jwd a ≤ q := by
    rcases (show b = 0 ∨ b = 1 by omega) with rfl | rfl
    · refine Or.inl ?_
      rw [Nat.mul_zero] at h4
      show q < jwd a * 1
      omega
    · refine Or.inr ?_
      rw [Nat.mul_one] at h3
      show jwd a * 0 + jwd a ≤ q
      omega
  exact (f.2.1 a q h1 h2 e).trans (congrFun (p.1 a 0 (by omega) (by omega)) q)
theorem jz_G_b {b : Nat} {h h' : jx_H} (E : jBk b h h') {a : jw_A} (g : jz_G h b a) : jz_G h' b a := by
  obtain ⟨g1, g2⟩ := g
  exact ⟨by rw [jBk_np E, jBk_nm E]; exact g1, g2⟩
theorem jz_Le1_b {b j : Nat} {hc hc' hm hm' : jx_H} (E : jBk b hm hm') (c : ∀ a, 52 ≤ a → a ≤ 55 → jh_I hc' a 0 = jh_I hc a 0) (m : ∀ a, 113 ≤ a → a ≤ 117 → jh_I hm' a 0 = jh_I hm a 0) (g : jz_Le1 hc hm b j) : jz_Le1 hc' hm' b j := by
  unfold jz_Le1
  rw [c 52 (by decide) (by decide), c 53 (by decide) (by decide), c 54 (by decide) (by decide), c 55 (by decide) (by decide), m 113 (by decide) (by decide), m 114 (by decide) (by decide), m 115 (by decide) (by decide), m 116 (by decide) (by decide), m 117 (by decide) (by decide), jBk_nm E]
  exact g
theorem jy_A_f {c r : Nat} {h h' : jx_H} {a : jw_A} (eM : jh_M h' 1 c = jh_M h 1 c) (e1 : jh_I h' 1 c = jh_I h 1 c) (e : ∀ k, 32 ≤ k → k ≤ 36 → jh_I h' k c = jh_I h k c) (e7 : jh_I h' 7 r = jh_I h 7 r) (g : jy_A h c r a) : jy_A h' c r a := by
  unfold jy_A jy_np
  rw [eM, e1, e 32 (by decide) (by decide), e 33 (by decide) (by decide), e 34 (by decide) (by decide), e 35 (by decide) (by decide), e 36 (by decide) (by decide), e7]
  exact g
def jFb (h : jx_H) (x y : Int32) : jx_H := ju_I (ju_I h 10 0 (upd (upd (jh_I h 10 0) 15 x) 16 y)) 9 0 (upd (jh_I h 9 0) 5 0)
theorem jz_Rel_bad {hc hm h3 h0 hm3 : jx_H} {r b pl : Nat} {kd : Int32} (hC : jz_C hc hm b r) (hLy : jz_Ly hc hm) (hTi : jz_Ti hc hm) (hLe : jz_Le hc hm b) (hBo : jz_Bo hc hm b r) (hAc : jz_Ac hc hm b) (hWo : jz_Wo hc)
    (fr : jFR r hc h3) (p : jRpre hm h0 (1 - b)) (f : jMF (1 - b) h0 hm3) (m4 : jh_I hm3 11 0 4 = kd) (mp : jPl hm3 pl) : jz_Rel (jFb h3 kd (nI pl)) hm3 := by
  obtain ⟨c1, c2, c3, c4, c5, c6, c7, c8⟩ := hC
  obtain ⟨w1, w2, w3, w4⟩ := id c1
  have E : jBk b hm hm3 := jBk_mk w2 p f
  have eI : ∀ a, a ≠ 6 → a ≠ 9 → a ≠ 10 → a ≠ 18 → a ≠ 19 → a ≠ 2 → a ≠ 7 → ¬ (21 ≤ a ∧ a ≤ 27) → ∀ i, jh_I (jFb h3 kd (nI pl)) a i = jh_I hc a i := fun a z6 z9 z10 z18 z19 z2 z7 z21 i => (if_neg (fun y => z9 y.1)).trans ((if_neg (fun y => z10 y.1)).trans (fr.1 a i z9 z6 z18 z19 (fun y => by omega) (fun y => z2 y.1)))
  have e10 : ∀ f, f ≠ 15 → f ≠ 16 → jh_I (jFb h3 kd (nI pl)) 10 0 f = jh_I hc 10 0 f := fun f z15 z16 => by
    show upd (upd (jh_I h3 10 0) 15 kd) 16 (nI pl) f = _
    rw [jg_un z16, jg_un z15, fr.1 10 0 (by decide) (by decide) (by decide) (by decide) (fun y => by omega) (fun y => by omega)]
  have eM : ∀ a i, a ≠ 6 → jh_M (jFb h3 kd (nI pl)) a i = jh_M hc a i := fun a i z => fr.2.2 a i z
  have e7 : jh_I (jFb h3 kd (nI pl)) 7 r = jh_I hc 7 r := (show jh_I (jFb h3 kd (nI pl)) 7 r = jh_I h3 7 r from rfl).trans (fr.1 7 r (by decide) (by decide) (by decide) (by decide) (fun y => by omega) (fun y => by omega))
  have Ck : jCk r hc (jFb h3 kd (nI pl)) := ⟨fun a ha => (if_neg (fun y => by omega)).trans ((if_neg (fun y => by omega)).trans (fr.1 a r (by omega) (by omega) (by omega) (by omega) (fun y => by omega) (fun y => by omega))), fun q hq => (show jh_I (jFb h3 kd (nI pl)) 2 (12 * r + q) = jh_I h3 2 (12 * r + q) from rfl).trans (fr.1 2 (12 * r + q) (by decide) (by decide) (by decide) (by decide) (fun y => by omega) (fun y => by omega))⟩
  have mI : ∀ a, a ≠ 11 → a ≠ 65 → a < 66 ∨ 96 < a → jh_I hm3 a 0 = jh_I hm a 0 := fun a z1 z2 z3 => (f.1 a 0 z1 z3).trans (p.1 a 0 z1 z2)
  have m11 : ∀ q, 10 < q ∧ q < 44 ∨ 48 < q → jh_I hm3 11 0 q = jh_I hm 11 0 q := fun q hq => (f.2.2.2.2.2 q (by omega)).trans (p.2.2.1 q (by omega) (by omega) (by omega) (by omega) (by omega) (by omega))
  have eA : jA hm3 = jA hm := mI 98 (by decide) (by decide) (by decide)
  have yA : ∀ c, ∀ a, jy_A hc c r a → jy_A (jFb h3 kd (nI pl)) c r a := fun c a g => jy_A_f (eM 1 c (by decide)) (eI 1 (by decide) (by decide) (by decide) (by decide) (by decide) (by decide) (by decide) (by decide) c) (fun k k1 k2 => eI k (by omega) (by omega) (by omega) (by omega) (by omega) (by omega) (by omega) (by omega) c) e7 g
  have yL : ∀ c, ∀ a, jy_L hc c a → jy_L (jFb h3 kd (nI pl)) c a := fun c a g j hj => (congrFun (eI 31 (by decide) (by decide) (by decide) (by decide) (by decide) (by decide) (by decide) (by decide) c) j).trans (g j hj)
  have e0 : ∀ a, a ≠ 6 → a ≠ 9 → a ≠ 10 → a ≠ 18 → a ≠ 19 → a ≠ 2 → a ≠ 7 → ¬ (21 ≤ a ∧ a ≤ 27) → jh_I (jFb h3 kd (nI pl)) a 0 = jh_I hc a 0 := fun a z6 z9 z10 z18 z19 z2 z7 z21 => eI a z6 z9 z10 z18 z19 z2 z7 z21 0
  refine ⟨b, r, ⟨⟨(m11 43 (by decide)).trans w1, w2, jz_R_b E w3, by rw [jBk_np E, jBk_nm E, eA]; exact w4⟩, by rw [eA]; exact jz_G_b E c2, c3, (congrFun (eM 10 0 (by decide)) 11).trans c4, (congrFun (eM 10 0 (by decide)) 12).trans c5, jy_R_b E Ck w3 c6, by rw [eA]; exact yA 0 _ c7, by rw [eA]; exact yL 0 _ c8⟩, ⟨0, rfl, (f.2.2.2.2.2 2 (by decide)).trans p.2.2.2.1, by decide, fun j hj => absurd hj (Nat.not_lt_zero _)⟩, ⟨m4.symm, mp.1.symm⟩, ?_, ?_, ?_, ?_, ?_, ?_⟩
  · obtain ⟨s, l1, l2, l3, l4⟩ := hLy
    exact ⟨s, l1, (e10 13 (by decide) (by decide)).trans l2, (m11 65 (by decide)).trans l3, fun j hj => by rw [e0 63 (by decide) (by decide) (by decide) (by decide) (by decide) (by decide) (by decide) (by decide), mI 106 (by decide) (by decide) (by decide)]; exact l4 j hj⟩
  · obtain ⟨t, t1, t2, t3⟩ := hTi
    exact ⟨t, t1, (e10 14 (by decide) (by decide)).trans t2, (m11 81 (by decide)).trans t3⟩
  · obtain ⟨n, n1, n2, n3, n4⟩ := hLe
    exact ⟨n, n1, (congrFun (e0 4 (by decide) (by decide) (by decide) (by decide) (by decide) (by decide) (by decide) (by decide)) 4).trans n2, (m11 80 (by decide)).trans n3, fun j hj => jz_Le1_b E (fun a a1 a2 => e0 a (by omega) (by omega) (by omega) (by omega) (by omega) (by omega) (by omega) (by omega)) (fun a a1 a2 => mI a (by omega) (by omega) (by omega)) (n4 j hj)⟩
  · intro i hi
    obtain ⟨x1, x2⟩ := hBo i hi
    rw [e0 62 (by decide) (by decide) (by decide) (by decide) (by decide) (by decide) (by decide) (by decide), mI 122 (by decide) (by decide) (by decide)]
    refine ⟨x1, x2.imp id (fun y => ⟨y.1, ?_⟩)⟩
    obtain ⟨β, y1, y2, y3, y4, y5⟩ := y.2
    exact ⟨β, jz_G_b E y1, yA _ _ y2, yL _ _ y3, fun k hk => by rw [mI 121 (by decide) (by decide) (by decide)]; exact y4 k hk, fun k hk => by rw [eA]; exact y5 k hk⟩
  · obtain ⟨n, u, a1, a2, a3, a4, a5, σ, s1, s2, s3, s4, s5, s6⟩ := hAc
    refine ⟨n, u, a1, (congrFun (e0 0 (by decide) (by decide) (by decide) (by decide) (by decide) (by decide) (by decide) (by decide)) 4).trans a2, (congrFun (e0 0 (by decide) (by decide) (by decide) (by decide) (by decide) (by decide) (by decide) (by decide)) 5).trans a3, (m11 60 (by decide)).trans a4, (m11 61 (by decide)).trans a5, σ, s1.trans eA.symm, fun j hj k hk => by rw [mI 103 (by decide) (by decide) (by decide)]; exact s2 j hj k hk, fun j h1 h2 k hk => by rw [mI 103 (by decide) (by decide) (by decide)]; exact s3 j h1 h2 k hk, fun j hj => jz_G_b E (s4 j hj), fun j hj k hk => by rw [eA]; exact s5 j hj k hk, fun j hj => ?_⟩
    rw [e0 48 (by decide) (by decide) (by decide) (by decide) (by decide) (by decide) (by decide) (by decide), e0 49 (by decide) (by decide) (by decide) (by decide) (by decide) (by decide) (by decide) (by decide), e0 50 (by decide) (by decide) (by decide) (by decide) (by decide) (by decide) (by decide) (by decide), e0 51 (by decide) (by decide) (by decide) (by decide) (by decide) (by decide) (by decide) (by decide)]
    exact jz_act_b E w3 (s6 j hj)
  · exact fun i hi => (congrFun (fr.2.1 17 0 (by decide) (by decide) (by decide) (by decide) (by decide)) i).trans (hWo i hi)
