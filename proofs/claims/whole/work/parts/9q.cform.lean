theorem jVr_pp (V : Nat → Nat → Nat) (w u c v : Nat) : jVr (jv2 (jv2 V 0 1 (V 0 1 + 1)) 3 (V 0 1) v) w u c = jv2 (jv2 (jVr V w u c) 0 1 (V 0 1 + 1)) 3 (V 0 1) v := by
  funext p q
  simp only [jVr, jv2]
  repeat' split
  all_goals first | rfl | (exfalso; omega)
theorem jML_D {h : jx_H} {B : Nat → Int32} {sz β t : Nat} {V : Nat → Nat → Nat} {W : Nat → Nat → List Nat} {D D' : Nat → Int32} (x : jML h B sz β t V W D) (e : ∀ q, q < V 0 4 → D' q = D q) : jML h B sz β t V W D' := ⟨x.1, x.2.1, fun q hq => by rw [e q hq]; exact x.2.2 q hq⟩
/-- a line whose formula is followed by a relation: the class is content with it so far -/
def jLO3 (M : jx_M) (K : Nat) (h0 : jx_H) (B : Nat → Int32) (sz T β ρ t : Nat) (V : Nat → Nat → Nat) (W : Nat → Nat → List Nat) (D : Nat → Int32) (r : Option jx_V) (h' : jx_H) : Prop := jLO M K h0 B sz T β ρ t V W D r h' ∨ (r = some (jv_i 1) ∧ ∃ t', jTS h' B sz T t' ∧ jT_rk (jT_K B sz t') = 4 ∧ jCF ρ h0 h' ∧ jLB M K B sz β t V W D 2 (jT_p B sz t'))
def jFp (h : jx_H) (ρ n v : Nat) : jx_H := ju_I (ju_I h 23 ρ (upd (jh_I h 23 ρ) n (nI v))) 7 ρ (upd (jh_I h 7 ρ) 3 (nI (n + 1)))
theorem jLS_person {h0 h h5 : jx_H} {B : Nat → Int32} {sz T ρ t t' v : Nat} {w : List Nat} {V : Nat → Nat → Nat} {W : Nat → Nat → List Nat} {D : Nat → Int32} (x : jLS h0 h B sz T ρ t V W D) (g : jCf (ju_L h 29 0 (vp_updL (jh_L h 29 0) (V 0 1) (jy_key w))) h5) (z : jTS h5 B sz T (t + t')) (hn : V 0 1 < 5) (hv : v ≤ 9) (hw : jT_letters w ∧ w.length ≤ 8) :
    jLS h0 (jFp h5 ρ (V 0 1) v) B sz T ρ (t + t') (jv2 (jv2 V 0 1 (V 0 1 + 1)) 3 (V 0 1) v) (jw2 W 1 (V 0 1) w) D := by
  obtain ⟨x1, ⟨⟨a1, a2⟩, ⟨b1, b2⟩, ⟨c1, c2⟩, e, f1, f2, f3, f4, f5, f6, f7, i1, i2, i3, i4⟩, x3, ⟨v1, v2, v3, v4, v5, v6, v7, v8, v9, v10, v11, v12, v13, v14, v15, v16, v17, v18, v19, v20, v21⟩, x5, x6⟩ := x
  have f7' : ∀ q, q ≠ 3 → jh_I (jFp h5 ρ (V 0 1) v) 7 ρ q = jh_I h 7 ρ q := fun q hq => by
    unfold jFp
    rw [jg_II, jg_un hq, g.1 7 ρ (by decide) (by decide)]
    rfl
  have fa : ∀ a b, a ≠ 9 → a ≠ 6 → a ≠ 7 → a ≠ 23 → jh_I (jFp h5 ρ (V 0 1) v) a b = jh_I h a b := fun a b z1 z2 z3 z4 => (if_neg (fun y => z3 y.1)).trans ((if_neg (fun y => z4 y.1)).trans (g.1 a b z1 z2))
  have e23 : jh_I (jFp h5 ρ (V 0 1) v) 23 ρ = upd (jh_I h 23 ρ) (V 0 1) (nI v) := by
    rw [← show jh_I h5 23 ρ = jh_I h 23 ρ from g.1 23 ρ (by decide) (by decide)]
    exact if_pos ⟨rfl, rfl⟩
  have eL : ∀ a, a ≠ 9 → a ≠ 29 → jh_L (jFp h5 ρ (V 0 1) v) a 0 = jh_L h a 0 := fun a z1 z2 => (g.2.1 a 0 z1).trans (if_neg (fun y => z2 y.1))
  have e29 : jh_L (jFp h5 ρ (V 0 1) v) 29 0 = vp_updL (jh_L h 29 0) (V 0 1) (jy_key w) := g.2.1 29 0 (by decide)
  refine ⟨z, ⟨⟨(f7' 0 (by decide)).trans a1, fun j hj => ?_⟩, ⟨?_, fun p hp => ?_⟩, ⟨(f7' 5 (by decide)).trans c1, fun p hp => ?_⟩, fun w hw => ?_, (f7' 7 (by decide)).trans f1, (f7' 8 (by decide)).trans f2, (f7' 9 (by decide)).trans f3, (f7' 10 (by decide)).trans f4, (f7' 11 (by decide)).trans f5, (f7' 12 (by decide)).trans f6, (f7' 15 (by decide)).trans f7, (g.2.2.2.2 5 (by decide)).trans i1, ?_, fun q hq => ?_, ?_⟩,
    jCF_I (jCF_I (jCF_f (jCF_L x3 (by decide)) g) (by decide)) (by decide), ⟨v1, ?_, v3, v4, v5, fun p hp => ?_, fun d hd => ?_, v8, v9, v10, v11, v12, v13, v14, v15, v16, v17, fun q hq => v18 q (Nat.le_of_succ_le hq), v19, fun j hj => ?_, v21⟩, ?_, x6⟩
  · rw [fa 21 ρ (by decide) (by decide) (by decide) (by decide), fa 22 ρ (by decide) (by decide) (by decide) (by decide), eL 28 (by decide) (by decide)]
    exact a2 j hj
  · unfold jFp
    rw [jg_II, jg_us]
    rfl
  · have hp1 : p < V 0 1 + 1 := hp
    rw [e23, e29]
    by_cases e : p = V 0 1
    · subst e
      rw [jg_us, jg_Lus, jv2_s, jw2_s]
      exact ⟨rfl, rfl⟩
    · rw [jg_un (by omega), jg_Lun (by omega), jv2_n (fun y => by omega), jv2_n (fun y => by omega), jw2_n (fun y => by omega)]
      exact b2 p (by omega)
  · unfold jCd
    rw [fa 2 _ (by decide) (by decide) (by decide) (by decide), eL 30 (by decide) (by decide)]
    exact c2 p hp
  · rw [fa 26 ρ (by decide) (by decide) (by decide) (by decide), fa 27 ρ (by decide) (by decide) (by decide) (by decide)]
    exact e w hw
  · rw [f7' 13 (by decide)]
    exact i2
  · rw [fa 25 ρ (by decide) (by decide) (by decide) (by decide)]
    exact i3 q hq
  · rw [show jh_M (jFp h5 ρ (V 0 1) v) 6 0 = jh_M h 6 0 from congrFun (congrFun (congrArg (·.1) g.2.2.1) 6) 0]
    exact i4
  · show V 0 1 + 1 ≤ 5
    omega
  · have hp1 : p < V 0 1 + 1 := hp
    by_cases e : p = V 0 1
    · subst e
      rw [jv2_s]
      exact hv
    · rw [jv2_n (fun y => by omega), jv2_n (fun y => by omega)]
      exact v6 p (by omega)
  · obtain ⟨d1, d2, d3⟩ := v7 d hd
    exact ⟨Nat.lt_succ_of_lt d1, Nat.lt_succ_of_lt d2, d3⟩
  · have hj1 : j < V 0 1 + 1 := hj
    by_cases e : j = V 0 1
    · subst e
      rw [jw2_s]
      exact hw
    · rw [jw2_n (fun y => by omega)]
      exact v20 j (by omega)
  · show 4 * V 0 4 ≤ 8 * V 0 3 + jT_p B sz (t + t')
    have := jT_p_mn (B := B) (sz := sz) (t := t) t'
    omega
theorem jLS_form {h0 h h' : jx_H} {B : Nat → Int32} {sz T ρ t t' w u c : Nat} {V : Nat → Nat → Nat} {W : Nat → Nat → List Nat} {D : Nat → Int32} (x : jLS h0 h B sz T ρ t V W D) (hw : w < 6) (hwp : w < V 0 1 ∨ w = 5) (hu : u ≤ 90) (hc : V 0 4 ≤ c) (hb : 8 * V 0 3 + jT_p B sz t + 4 * c ≤ 8 * u + jT_p B sz t' + 4 * V 0 4) (z : jTS h' B sz T t') (h12 : jh_I h' 7 ρ 12 = nI u) (h15 : jh_I h' 7 ρ 15 = nI c) (ha : jh_I h' 7 ρ 13 = 0 ∧ (∀ q, q < c → jh_I h' 25 ρ q ≠ -102 ∧ jh_I h' 25 ρ q ≠ -103) ∨ jh_I h' 7 ρ 13 = 1) (g : jGF ρ w (V 0 4) h h') (h27 : jh_I h' 27 ρ w = nI c) (h5 : w ≠ 5) :
    jLS h0 h' B sz T ρ t' (jVr V w u c) W (jh_I h' 25 ρ) := by
  obtain ⟨x1, ⟨⟨a1, a2⟩, ⟨b1, b2⟩, ⟨c1, c2⟩, e, f1, f2, f3, f4, f5, f6, f7, i1, i2, i3, i4⟩, x3, ⟨v1, v2, v3, v4, v5, v6, v7, v8, v9, v10, v11, v12, v13, v14, v15, v16, v17, v18, v19, v20, v21⟩, x5, x6⟩ := x
  obtain ⟨g1, g2, g3, g4, g5, g6, g7, g8, g9⟩ := id g
  obtain ⟨s1, s2, s3, s4, s5⟩ := jVr_s V w u c
  have n : ∀ a, a ≠ 9 → a ≠ 6 → a ≠ 7 → a ≠ 25 → a ≠ 26 → a ≠ 27 → ∀ b, jh_I h' a b = jh_I h a b := fun a z1 z2 z3 z4 z5 z6 b => g1 a b z1 z2 (fun y => z3 y.1) (fun y => z4 y.1) (fun y => z5 y.1) (fun y => z6 y.1)
  have m : ∀ p q, p ≠ 0 → p < 10 → jVr V w u c p q = V p q := fun p q z1 z2 => jVr_n z1 (by omega)
  have k0 : ∀ q, q ≠ 3 → q ≠ 4 → jVr V w u c 0 q = V 0 q := fun q z1 z2 => jVr_0 z1 z2
  refine ⟨z, ⟨⟨(g6 0 (by decide) (by decide) (by decide)).trans (by rw [k0 0 (by decide) (by decide)]; exact a1), fun j hj => ?_⟩, ⟨(g6 3 (by decide) (by decide) (by decide)).trans (by rw [k0 1 (by decide) (by decide)]; exact b1), fun p hp => ?_⟩, ⟨(g6 5 (by decide) (by decide) (by decide)).trans (by rw [k0 2 (by decide) (by decide)]; exact c1), fun p hp => ?_⟩, fun q hq => ?_, (g6 7 (by decide) (by decide) (by decide)).trans (by rw [k0 8 (by decide) (by decide)]; exact f1), (g6 8 (by decide) (by decide) (by decide)).trans (by rw [k0 9 (by decide) (by decide)]; exact f2), (g6 9 (by decide) (by decide) (by decide)).trans (by rw [k0 10 (by decide) (by decide)]; exact f3), (g6 10 (by decide) (by decide) (by decide)).trans (by rw [k0 11 (by decide) (by decide)]; exact f4), (g6 11 (by decide) (by decide) (by decide)).trans (by rw [k0 12 (by decide) (by decide)]; exact f5), by rw [s4]; exact h12, by rw [s5]; exact h15, (g5 5 (by decide)).trans ?_, by rw [s5]; exact ha, fun q _ => rfl, ?_⟩,
    jGF_CF x3 g, ⟨?_, ?_, ?_, ?_, ?_, ?_, ?_, ?_, ?_, ?_, ?_, ?_, ?_, ?_, ?_, ?_, ?_, ?_, ?_, ?_, ?_⟩, ?_, x6⟩
  · rw [k0 0 (by decide) (by decide)] at hj
    rw [n 21 (by decide) (by decide) (by decide) (by decide) (by decide) (by decide), n 22 (by decide) (by decide) (by decide) (by decide) (by decide) (by decide), g2 28 0 (by decide), m 1 j (by decide) (by decide), m 2 j (by decide) (by decide)]
    exact a2 j hj
  · rw [k0 1 (by decide) (by decide)] at hp
    rw [n 23 (by decide) (by decide) (by decide) (by decide) (by decide) (by decide), g2 29 0 (by decide), m 3 p (by decide) (by decide)]
    exact b2 p hp
  · rw [k0 2 (by decide) (by decide)] at hp
    unfold jCd
    rw [n 2 (by decide) (by decide) (by decide) (by decide) (by decide) (by decide), g2 30 0 (by decide), m 4 p (by decide) (by decide), m 5 p (by decide) (by decide), m 6 p (by decide) (by decide), m 7 p (by decide) (by decide), m 8 p (by decide) (by decide), m 9 p (by decide) (by decide)]
    exact c2 p hp
  · rw [g8]
    by_cases ee : q = w
    · subst ee
      rw [s1, s2, jg_us, h27]
      exact ⟨rfl, rfl⟩
    · rw [jg_un ee, g9 q ee, jVr_n (by decide) (by omega), jVr_n (by decide) (by omega)]
      exact e q hq
  · rw [k0 5 (by decide) (by decide), k0 6 (by decide) (by decide), k0 7 (by decide) (by decide), jVr_n (by decide) (by omega)]
    exact i1
  · rw [show jh_M h' 6 0 = jh_M h 6 0 from congrFun (congrFun (congrArg (·.1) g3) 6) 0]
    exact i4
  · rw [k0 0 (by decide) (by decide)]; exact v1
  · rw [k0 1 (by decide) (by decide)]; exact v2
  · rw [k0 2 (by decide) (by decide)]; exact v3
  · rw [s4]; exact hu
  · intro j hj
    rw [k0 0 (by decide) (by decide)] at hj
    rw [m 1 j (by decide) (by decide), m 2 j (by decide) (by decide)]
    exact v5 j hj
  · intro p hp
    rw [k0 1 (by decide) (by decide)] at hp
    rw [m 3 p (by decide) (by decide)]
    exact v6 p hp
  · intro p hp
    rw [k0 2 (by decide) (by decide)] at hp
    rw [m 4 p (by decide) (by decide), m 5 p (by decide) (by decide), m 6 p (by decide) (by decide), m 7 p (by decide) (by decide), m 8 p (by decide) (by decide), m 9 p (by decide) (by decide), k0 0 (by decide) (by decide), k0 1 (by decide) (by decide)]
    exact v7 p hp
  · rw [k0 5 (by decide) (by decide)]; exact v8
  · rw [k0 5 (by decide) (by decide), k0 8 (by decide) (by decide), k0 9 (by decide) (by decide)]; exact v9
  · rw [k0 5 (by decide) (by decide), k0 8 (by decide) (by decide), k0 9 (by decide) (by decide)]; exact v10
  · rw [k0 6 (by decide) (by decide)]; exact v11
  · rw [k0 7 (by decide) (by decide)]; exact v12
  · rw [k0 10 (by decide) (by decide)]; exact v13
  · rw [k0 11 (by decide) (by decide)]; exact v14
  · rw [k0 11 (by decide) (by decide)]; exact v15
  · rw [k0 12 (by decide) (by decide)]; exact v16
  · intro q hq
    rw [s5]
    by_cases ee : q = w
    · subst ee
      rw [s1, s2, s3]
      exact ⟨Nat.le_refl _, hc, Nat.le_refl _, fun y => absurd y (by decide)⟩
    · rw [jVr_n (by decide) (by omega), jVr_n (by decide) (by omega), jVr_n (by decide) (by omega)]
      obtain ⟨y1, y2, y3, y4⟩ := v17 q hq
      exact ⟨y1, y2, by omega, y4⟩
  · intro q hq hq5
    rw [k0 1 (by decide) (by decide)] at hq
    rw [jVr_n (by decide) (by omega)]
    exact v18 q hq hq5
  · rw [k0 0 (by decide) (by decide)]; exact v19
  · rw [k0 1 (by decide) (by decide)]; exact v20
  · rw [k0 2 (by decide) (by decide)]; exact v21
  · rw [s4, s5]
    omega
