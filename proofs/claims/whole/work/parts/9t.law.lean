theorem jLS_formL {h0 h h' : jx_H} {B : Nat → Int32} {sz T ρ t t' w u c : Nat} {V : Nat → Nat → Nat} {W : Nat → Nat → List Nat} {D : Nat → Int32} (x : jLS h0 (jgh h V) B sz T ρ t V W D) (hw : w < 6) (xb : jh_I h 6 0 5 = nI (jbt V + 2)) (hs : V 12 5 = 0) (hu : u ≤ 90) (hc : V 0 4 ≤ c) (hb : 8 * V 0 3 + jT_p B sz t + 4 * c ≤ 8 * u + jT_p B sz t' + 4 * V 0 4) (z : jTS h' B sz T t') (h12 : jh_I h' 7 ρ 12 = nI u) (h15 : jh_I h' 7 ρ 15 = nI c) (ha : jh_I h' 7 ρ 13 = 0 ∧ (∀ q, q < c → jh_I h' 25 ρ q ≠ -102 ∧ jh_I h' 25 ρ q ≠ -103) ∨ jh_I h' 7 ρ 13 = 1) (g : jGF ρ w (V 0 4) h h') (h27 : jh_I h' 27 ρ w = nI c) (h5 : w = 5) :
    jLS h0 h' B sz T ρ t' (jVr V w u c) W (jh_I h' 25 ρ) := by
  obtain ⟨x1, ⟨⟨a1, a2⟩, ⟨b1, b2⟩, ⟨c1, c2⟩, e, f1, f2, f3, f4, f5, f6, f7, i1, i2, i3, i4⟩, x3, ⟨v1, v2, v3, v4, v5, v6, v7, v8, v9, v10, v11, v12, v13, v14, v15, v16, v17, v18, v19, v20, v21⟩, x5, x6⟩ := x
  obtain ⟨g1, g2, g3, g4, g5, g6, g7, g8, g9⟩ := id g
  obtain ⟨s1, s2, s3, s4, s5⟩ := jVr_s V w u c
  have n : ∀ a, a ≠ 9 → a ≠ 6 → a ≠ 7 → a ≠ 25 → a ≠ 26 → a ≠ 27 → ∀ b, jh_I h' a b = jh_I h a b := fun a z1 z2 z3 z4 z5 z6 b => g1 a b z1 z2 (fun y => z3 y.1) (fun y => z4 y.1) (fun y => z5 y.1) (fun y => z6 y.1)
  have m : ∀ p q, p ≠ 0 → p < 10 → jVr V w u c p q = V p q := fun p q z1 z2 => jVr_n z1 (by omega)
  have k0 : ∀ q, q ≠ 3 → q ≠ 4 → jVr V w u c 0 q = V 0 q := fun q z1 z2 => jVr_0 z1 z2
  refine ⟨z, ⟨⟨(g6 0 (by decide) (by decide) (by decide)).trans (by rw [k0 0 (by decide) (by decide)]; exact a1), fun j hj => ?_⟩, ⟨(g6 3 (by decide) (by decide) (by decide)).trans (by rw [k0 1 (by decide) (by decide)]; exact b1), fun p hp => ?_⟩, ⟨(g6 5 (by decide) (by decide) (by decide)).trans (by rw [k0 2 (by decide) (by decide)]; exact c1), fun p hp => ?_⟩, fun q hq => ?_, (g6 7 (by decide) (by decide) (by decide)).trans (by rw [k0 8 (by decide) (by decide)]; exact f1), (g6 8 (by decide) (by decide) (by decide)).trans (by rw [k0 9 (by decide) (by decide)]; exact f2), (g6 9 (by decide) (by decide) (by decide)).trans (by rw [k0 10 (by decide) (by decide)]; exact f3), (g6 10 (by decide) (by decide) (by decide)).trans (by rw [k0 11 (by decide) (by decide)]; exact f4), (g6 11 (by decide) (by decide) (by decide)).trans (by rw [k0 12 (by decide) (by decide)]; exact f5), by rw [s4]; exact h12, by rw [s5]; exact h15, (g5 5 (by decide)).trans ?_, by rw [s5]; exact ha, fun q _ => rfl, ?_⟩,
    jGF_CF (jCF_g x3) g, ⟨?_, ?_, ?_, ?_, ?_, ?_, ?_, ?_, ?_, ?_, ?_, ?_, ?_, ?_, ?_, ?_, ?_, ?_, ?_, ?_, ?_⟩, ?_, x6⟩
  · rw [k0 0 (by decide) (by decide)] at hj
    rw [n 21 (by decide) (by decide) (by decide) (by decide) (by decide) (by decide), n 22 (by decide) (by decide) (by decide) (by decide) (by decide) (by decide), g2 28 0 (by decide), m 1 j (by decide) (by decide), m 2 j (by decide) (by decide)]
    exact a2 j hj
  · rw [k0 1 (by decide) (by decide)] at hp
    rw [n 23 (by decide) (by decide) (by decide) (by decide) (by decide) (by decide), g2 29 0 (by decide), m 3 p (by decide) (by decide)]
    exact b2 p hp
  · rw [k0 2 (by decide) (by decide)] at hp
    unfold jCd
    rw [n 2 (by decide) (by decide) (by decide) (by decide) (by decide) (by decide), g2 30 0 (by decide), m 4 p (by decide) (by decide), m 5 p (by decide) (by decide), m 6 p (by decide) (by decide), m 7 p (by decide) (by decide), m 8 p (by decide) (by decide), m 9 p (by decide) (by decide)]
    exact c2 p hp
  · rw [g8]
    by_cases ee : q = w
    · subst ee
      rw [s1, s2, jg_us, h27]
      exact ⟨rfl, rfl⟩
    · rw [jg_un ee, g9 q ee, jVr_n (by decide) (by omega), jVr_n (by decide) (by omega)]
      exact e q hq
  · have s3' : jVr V w u c 12 5 = 1 := by rw [← h5]; exact s3
    rw [k0 5 (by decide) (by decide), k0 6 (by decide) (by decide), k0 7 (by decide) (by decide), s3']
    exact xb.trans (congrArg nI (by unfold jbt; omega))
  · rw [show jh_M h' 6 0 = jh_M h 6 0 from congrFun (congrFun (congrArg (·.1) g3) 6) 0]
    exact i4
  · rw [k0 0 (by decide) (by decide)]; exact v1
  · rw [k0 1 (by decide) (by decide)]; exact v2
  · rw [k0 2 (by decide) (by decide)]; exact v3
  · rw [s4]; exact hu
  · intro j hj
    rw [k0 0 (by decide) (by decide)] at hj
    rw [m 1 j (by decide) (by decide), m 2 j (by decide) (by decide)]
    exact v5 j hj
  · intro p hp
    rw [k0 1 (by decide) (by decide)] at hp
    rw [m 3 p (by decide) (by decide)]
    exact v6 p hp
  · intro p hp
    rw [k0 2 (by decide) (by decide)] at hp
    rw [m 4 p (by decide) (by decide), m 5 p (by decide) (by decide), m 6 p (by decide) (by decide), m 7 p (by decide) (by decide), m 8 p (by decide) (by decide), m 9 p (by decide) (by decide), k0 0 (by decide) (by decide), k0 1 (by decide) (by decide)]
    exact v7 p hp
  · rw [k0 5 (by decide) (by decide)]; exact v8
  · rw [k0 5 (by decide) (by decide), k0 8 (by decide) (by decide), k0 9 (by decide) (by decide)]; exact v9
  · rw [k0 5 (by decide) (by decide), k0 8 (by decide) (by decide), k0 9 (by decide) (by decide)]; exact v10
  · rw [k0 6 (by decide) (by decide)]; exact v11
  · rw [k0 7 (by decide) (by decide)]; exact v12
  · rw [k0 10 (by decide) (by decide)]; exact v13
  · rw [k0 11 (by decide) (by decide)]; exact v14
  · rw [k0 11 (by decide) (by decide)]; exact v15
  · rw [k0 12 (by decide) (by decide)]; exact v16
  · intro q hq
    rw [s5]
    by_cases ee : q = w
    · subst ee
      rw [s1, s2, s3]
      exact ⟨Nat.le_refl _, hc, Nat.le_refl _, fun y => absurd y (by decide)⟩
    · rw [jVr_n (by decide) (by omega), jVr_n (by decide) (by omega), jVr_n (by decide) (by omega)]
      obtain ⟨y1, y2, y3, y4⟩ := v17 q hq
      exact ⟨y1, y2, by omega, y4⟩
  · intro q hq hq5
    rw [k0 1 (by decide) (by decide)] at hq
    rw [jVr_n (by decide) (by omega)]
    exact v18 q hq hq5
  · rw [k0 0 (by decide) (by decide)]; exact v19
  · rw [k0 1 (by decide) (by decide)]; exact v20
  · rw [k0 2 (by decide) (by decide)]; exact v21
  · rw [s4, s5]
    omega
def jLOL (h0 : jx_H) (B : Nat → Int32) (sz T β ρ t : Nat) (V : Nat → Nat → Nat) (W : Nat → Nat → List Nat) (D : Nat → Int32) (r : Option jx_V) (h' : jx_H) : Prop :=
  (r = some (jv_i 1) ∧ ∃ t' V' W' D', jsm V' = jsm V + 1 ∧ jLS h0 h' B sz T ρ t' V' W' D' ∧ (∀ (d : Nat) (h1 hm : jx_H) (Qm : Option jx_V → jx_H → Prop), jML hm B sz β t V W D → jMF β h1 hm → (∀ h', jMF β h1 h' → jML h' B sz β t' V' W' D' → Qm none h') → jx_Ev jm_MD_readRule (d + 9) 0 0 false 1 [jv_r 11 0, jv_i (nI 5)] hm Qm)) ∨
  (r = some (jv_i 0) ∧ ∃ kd pl, jCF ρ h0 h' ∧ jh_I h' 6 0 8 = kd ∧ jh_I h' 6 0 9 = nI pl ∧ jFk sz kd pl ∧ (∀ (d : Nat) (h1 hm : jx_H) (Qm : Option jx_V → jx_H → Prop), jML hm B sz β t V W D → jMF β h1 hm → (∀ h', jMF β h1 h' → jh_I h' 11 0 4 = kd → jPl h' (pl) → Qm none h') → jx_Ev jm_MD_readRule (d + 9) 0 0 false 1 [jv_r 11 0, jv_i (nI 5)] hm Qm)) ∨
  (r = some (jv_i 1) ∧ ∃ t', jTS h' B sz T t' ∧ jT_rk (jT_K B sz t') = 4 ∧ jCF ρ h0 h' ∧ (∀ (d : Nat) (h1 hm : jx_H) (Qm : Option jx_V → jx_H → Prop), jML hm B sz β t V W D → jMF β h1 hm → (∀ h', jMF β h1 h' → jh_I h' 11 0 4 = 2 → jPl h' (jT_p B sz t') → Qm none h') → jx_Ev jm_MD_readRule (d + 9) 0 0 false 1 [jv_r 11 0, jv_i (nI 5)] hm Qm))
set_option maxHeartbeats 800000 in
theorem ev_law {d : Nat} {h : jx_H} {Q : Option jx_V → jx_H → Prop} {h0 : jx_H} {B : Nat → Int32} {sz T β ρ t : Nat} {V : Nat → Nat → Nat} {W : Nat → Nat → List Nat} {D : Nat → Int32} (x : jLS h0 (jgh h V) B sz T ρ t V W D) (xb : jh_I h 6 0 5 = nI (jbt V + 2)) (hs : V 12 5 = 0) (hβ : β < 2) (k : ∀ r h', jLOL h0 B sz T β ρ t V W D r h' → Q r h') : jx_Ev jm_Rdr_readFormula (d + 84) 0 0 false 0 [jv_r 6 0, jv_i (nI 5)] h Q := by
  obtain ⟨q1, q2, q3, q4, q5, q6⟩ := id x
  obtain ⟨-, -, -, -, -, -, -, -, -, o12, o15, -, oi2, oi3, od⟩ := id q2
  refine ev_formula (w := 5) (u := V 0 3) (c := V 0 4) (β := β) (show jTS h B sz T t from q1) od o12 o15 (oi2.elim (fun y => Or.inl ⟨y.1, fun q hq => by rw [show jh_I h 25 ρ q = D q from oi3 q hq]; exact y.2 q hq⟩) Or.inr) (by decide) ⟨q4.2.2.2.1, Nat.zero_le _, q5, q6⟩ (fun x1 t1 c1 h6 l1 l2 l3 l4 l5 z6 a12 a15 aa rk tr gg e27 => ?_) (fun kd pl h6 y1 y2 y3 y4 y5 y6 => ?_)
  · have dd : ∀ q, q < V 0 4 → jh_I h6 25 ρ q = D q := fun q hq => (gg.2.2.2.2.2.2.1 q hq).trans (oi3 q hq)
    rcases rk with rk | rk
    · refine k _ _ (Or.inl ⟨rfl, t1, jVr V 5 (V 0 3 + x1) c1, W, jh_I h6 25 ρ, ?_, jLS_formL x (by decide) xb hs l2 l4 l5 z6 a12 a15 aa gg e27 rfl, fun d h1 hm Qm x F kq => eM_ruleV (jML_D x dd) F hβ (by decide) (fun w hw => (q4.2.2.2.2.2.2.2.2.2.2.2.2.2.2.2.2.1 w hw).2.2.1) (by omega) tr rk (fun h7 y7 _ y8 => kq h7 y7 y8)⟩)
      show V 0 0 + V 0 1 + V 0 2 + V 0 5 + 1 + V 0 6 + V 0 7 = _
      unfold jsm
      omega
    · exact k _ _ (Or.inr (Or.inr ⟨rfl, t1, z6, rk, jGF_CF (jCF_g q3) gg, fun d h1 hm Qm x F kq => eM_ruleV4 (jML_D x dd) F hβ (by decide) tr rk (fun h7 y7 _ y8 y9 => kq h7 y7 y8 y9)⟩))
  · exact k _ _ (Or.inr (Or.inl ⟨rfl, kd, pl, y6 h0 (jCF_g q3), y1, y2, ⟨by rcases y3.1 with e | e <;> (rw [e]; decide), y3.2⟩, fun d h1 hm Qm x F kq => eM_ruleVB (jML_D x (fun q hq => (y5 q hq).trans (oi3 q hq))) F hβ (by decide) y3.1 y4 (fun h7 y7 _ y8 y9 => kq h7 y7 y8 y9)⟩))
