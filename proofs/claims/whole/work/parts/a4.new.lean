theorem jRk_V {h : jx_H} {B : Nat → Int32} {sz β t w : Nat} {V : Nat → Nat → Nat} {W : Nat → Nat → List Nat} {D : Nat → Int32} (x : jML h B sz β t V W D) (v : jVD V W) (hβ : β < 2) (hc : V 0 4 ≤ 605) (hw : w < 6) (e : V 12 w = 1) : jw_rk h β w = 620 * β + V 10 w ∧ jw_rn h β w = V 11 w - V 10 w ∧ V 10 w ≤ V 11 w ∧ V 11 w ≤ V 0 4 := by
  obtain ⟨-, ⟨-, -, -, r, -⟩, -⟩ := x
  obtain ⟨-, -, -, -, -, -, -, -, -, -, -, -, -, -, -, -, v17, -⟩ := v
  obtain ⟨r2, r3, -⟩ := (r w hw).2 e
  obtain ⟨-, l1, l2, -⟩ := v17 w hw
  have e1 : jw_rk h β w = 620 * β + V 10 w := jn_1 r2 (by omega)
  refine ⟨e1, ?_, l1, l2⟩
  unfold jw_rn
  rw [e1, jn_1 r3 (by omega)]
  omega
theorem jR_V {h : jx_H} {B : Nat → Int32} {sz β t : Nat} {V : Nat → Nat → Nat} {W : Nat → Nat → List Nat} {D : Nat → Int32} (x : jML h B sz β t V W D) (v : jVD V W) (hβ : β < 2) (hc : V 0 4 ≤ 605) : jz_R h β := by
  have K := fun w hw e => jRk_V (w := w) x v hβ hc hw e
  obtain ⟨⟨-, -, -, -, y69, -, -, -⟩, ⟨⟨a1, a2⟩, ⟨b1, b2⟩, ⟨c1, c2⟩, r, ⟨s1, s2⟩, s3, s4, s5, s6, s7⟩, -⟩ := x
  obtain ⟨v1, v2, v3, v4, v5, v6, v7, v8, v9, v10, v11, v12, v13, v14, v15, v16, v17, v18, v19, v20, v21⟩ := v
  have nm : jz_nm h β = V 0 0 := jn_1 a1 (by omega)
  have np : jz_np h β = V 0 1 := jn_1 b1 (by omega)
  have nd : jz_nd h β = V 0 2 := jn_1 c1 (by omega)
  have c18 : ∀ w, w < 6 → jC h β 18 w = nI (V 12 w) := fun w hw => (r w hw).1
  refine ⟨⟨by rw [nm]; exact a1, by rw [nm]; exact v1⟩, ⟨by rw [np]; exact b1, by rw [np]; exact v2⟩, ⟨by rw [nd]; exact c1, by rw [nd]; exact v3⟩, fun j hj => ?_, fun q hq => ?_, ?_, ?_, ⟨V 0 11, s6, v14, v15⟩, ?_, fun w hw => ?_, fun w h1 h2 => ?_, ⟨V 0 3, y69, v4, fun w hw => ?_⟩, fun p hp => ?_⟩
  · rw [nm] at hj
    exact ⟨V 1 j, V 2 j, (a2 j hj).1, (a2 j hj).2.1, (v5 j hj).1, (v5 j hj).2⟩
  · rw [nd] at hq
    obtain ⟨⟨m1, m2, m3, m4, m5, m6⟩, -⟩ := c2 q hq
    obtain ⟨e1, e2, e3, e4, e5, e6, e7, e8, e9⟩ := v7 q hq
    unfold jz_due
    rw [nm, np]
    refine ⟨V 4 q, V 5 q, V 6 q, V 7 q, V 8 q, m1, m2, m3, m4, m5, e1, e2, e3, e4, e5, e6, e7, e8, ?_⟩
    rcases (show V 9 q = 0 ∨ V 9 q = 1 by omega) with e | e
    · exact Or.inl (m6.trans (congrArg nI e))
    · exact Or.inr (m6.trans (congrArg nI e))
  · rcases (show V 0 5 = 0 ∨ V 0 5 = 1 by omega) with e | e
    · exact Or.inl (s1.trans (congrArg nI e))
    · exact Or.inr ⟨s1.trans (congrArg nI e), V 0 8, V 0 9, (s2 e).1, (s2 e).2, (v9 e).1, (v9 e).2.1, (v9 e).2.2⟩
  · rcases (show V 0 10 = 0 ∨ V 0 10 = 1 ∨ V 0 10 = 2 by omega) with e | e | e
    · exact Or.inl (s4.trans (congrArg nI e))
    · exact Or.inr (Or.inl (s4.trans (congrArg nI e)))
    · exact Or.inr (Or.inr (s4.trans (congrArg nI e)))
  · rcases (show V 0 12 = 0 ∨ V 0 12 = 1 by omega) with e | e
    · exact Or.inl (s7.trans (congrArg nI e))
    · exact Or.inr (s7.trans (congrArg nI e))
  · have l := (v17 w hw).1
    rcases (show V 12 w = 0 ∨ V 12 w = 1 by omega) with e | e
    · exact Or.inl ((c18 w hw).trans (congrArg nI e))
    · obtain ⟨k1, k2, k3, k4⟩ := K w hw e
      obtain ⟨r2, r3, r4⟩ := (r w hw).2 e
      refine Or.inr ⟨(c18 w hw).trans (congrArg nI e), ?_⟩
      unfold jw_good
      rw [k1, k2]
      exact ⟨r2, r3.trans (congrArg nI (by omega)), by omega, jw_okb_ok (by decide) r4⟩
  · rw [np] at h1
    exact (c18 w (by omega)).trans (congrArg nI (v18 w h1 h2))
  · have l := (v17 w hw).1
    rcases (show V 12 w = 0 ∨ V 12 w = 1 by omega) with e | e
    · exact Or.inl ((c18 w hw).trans (congrArg nI e))
    · obtain ⟨k1, k2, k3, k4⟩ := K w hw e
      refine Or.inr ?_
      rw [k1, k2]
      omega
  · rw [np] at hp
    exact ⟨V 3 p, (b2 p hp).1, v6 p hp⟩
theorem jt_tr_g {e c n : Int32} (h : jt_tr e c n) : (c = 103 → e = -102) ∧ (c = 111 → e = -103) := by
  have k : ∀ {x y : Int32}, -x = y → x = -y := fun {x y} z => by rw [← z, Int32.neg_neg]
  unfold jt_tr jt_wd at h
  constructor
  · intro z
    subst z
    rcases h with ⟨a, _⟩ | (⟨_, a⟩ | ⟨_, a⟩ | ⟨a, _⟩ | ⟨_, a⟩ | ⟨_, a⟩ | ⟨_, a⟩ | ⟨_, a⟩) | ⟨a, _⟩ | ⟨a, _⟩ | ⟨a, _⟩ | ⟨a, _⟩ | ⟨a, _⟩ | ⟨a, _⟩ | ⟨a, _⟩ | ⟨a, _⟩ | ⟨a, _⟩ | ⟨a, _⟩ | ⟨a, _⟩
    all_goals first | exact k a | exact absurd a (by decide)
  · intro z
    subst z
    rcases h with ⟨a, _⟩ | (⟨_, a⟩ | ⟨_, a⟩ | ⟨_, a⟩ | ⟨a, _⟩ | ⟨_, a⟩ | ⟨_, a⟩ | ⟨_, a⟩) | ⟨a, _⟩ | ⟨a, _⟩ | ⟨a, _⟩ | ⟨a, _⟩ | ⟨a, _⟩ | ⟨a, _⟩ | ⟨a, _⟩ | ⟨a, _⟩ | ⟨a, _⟩ | ⟨a, _⟩ | ⟨a, _⟩
    all_goals first | exact k a | exact absurd a (by decide)
theorem jy_R_V {h1 h3 hm : jx_H} {B : Nat → Int32} {sz β t ρ : Nat} {V : Nat → Nat → Nat} {W : Nat → Nat → List Nat} {D : Nat → Int32} (C : jCD h1 ρ V W D) (x : jML hm B sz β t V W D) (v : jVD V W) (hβ : β < 2) (hc : V 0 4 ≤ 605) (hs : V 0 5 = 1 ∧ h3 = h1 ∨ V 0 5 = 0 ∧ h3 = jFs h1 ρ (30 * V 0 0) 1) : jy_R h3 ρ hm β := by
  have K := fun w hw e => jRk_V (w := w) x v hβ hc hw e
  obtain ⟨⟨-, -, -, -, y69, -, -, -⟩, ⟨⟨a1, a2⟩, ⟨b1, b2⟩, ⟨c1, c2⟩, r, ⟨s1, s2⟩, s3, s4, s5, s6, s7⟩, td⟩ := x
  obtain ⟨v1, v2, v3, v4, v5, v6, v7, v8, v9, v10, v11, v12, v13, v14, v15, v16, v17, v18, v19, v20, v21⟩ := v
  obtain ⟨⟨p1, p2⟩, ⟨q1, q2⟩, ⟨u1, u2⟩, e, f1, f2, f3, f4, f5, f6, f7, i1, i2, i3, i4⟩ := C
  have nm : jz_nm hm β = V 0 0 := jn_1 a1 (by omega)
  have np : jz_np hm β = V 0 1 := jn_1 b1 (by omega)
  have nd : jz_nd hm β = V 0 2 := jn_1 c1 (by omega)
  have g7 : ∀ f, f ≠ 7 → f ≠ 8 → jh_I h3 7 ρ f = jh_I h1 7 ρ f := fun f z7 z8 => by
    rcases hs with ⟨-, rfl⟩ | ⟨-, rfl⟩
    · rfl
    · rw [jFs_7, jg_un z8, jg_un z7]
  have ga : ∀ a i, a ≠ 7 → jh_I h3 a i = jh_I h1 a i := fun a i z => by
    rcases hs with ⟨-, rfl⟩ | ⟨-, rfl⟩
    · rfl
    · exact (if_neg (fun y => z y.1)).trans (if_neg (fun y => z y.1))
  have su : jh_I h3 7 ρ 7 = jw_sunU (jC hm β) := by
    unfold jw_sunU
    rcases hs with ⟨hs, rfl⟩ | ⟨hs, rfl⟩
    · rw [if_neg (by rw [show jC hm β 12 0 = nI (V 0 5) from s1, hs]; decide)]
      exact f1.trans (s2 hs).1.symm
    · rw [if_pos (show jC hm β 12 0 = 0 from s1.trans (congrArg nI hs)), jFs_7, jg_un (by decide), jg_us, show jC hm β 0 0 = nI (V 0 0) from a1]
      exact (jn_mul (show (30 : Int32) = nI 30 from rfl) rfl).symm
  have sl : jh_I h3 7 ρ 8 = jw_sunL (jC hm β) := by
    unfold jw_sunL
    rcases hs with ⟨hs, rfl⟩ | ⟨hs, rfl⟩
    · rw [if_neg (by rw [show jC hm β 12 0 = nI (V 0 5) from s1, hs]; decide)]
      exact f2.trans (s2 hs).2.symm
    · rw [if_pos (show jC hm β 12 0 = 0 from s1.trans (congrArg nI hs)), jFs_7, jg_us]
      rfl
  refine ⟨(g7 0 (by decide) (by decide)).trans (p1.trans a1.symm), (g7 3 (by decide) (by decide)).trans (q1.trans b1.symm), (g7 5 (by decide) (by decide)).trans (u1.trans c1.symm), fun j hj => ?_, fun p hp => ?_, fun d hd => ?_, su, fun _ => sl, (g7 9 (by decide) (by decide)).trans (f3.trans ?_), (g7 10 (by decide) (by decide)).trans (f4.trans s6.symm), (g7 11 (by decide) (by decide)).trans (f5.trans s7.symm), (g7 12 (by decide) (by decide)).trans (f6.trans y69.symm), fun w hw => ?_⟩
  · rw [nm] at hj
    rw [ga 21 ρ (by decide), ga 22 ρ (by decide)]
    exact ⟨(p2 j hj).1.trans (a2 j hj).1.symm, (p2 j hj).2.1.trans (a2 j hj).2.1.symm⟩
  · rw [np] at hp
    rw [ga 23 ρ (by decide)]
    exact (q2 p hp).1.trans (b2 p hp).1.symm
  · rw [nd] at hd
    obtain ⟨⟨m1, m2, m3, m4, m5, m6⟩, -⟩ := c2 d hd
    obtain ⟨⟨n1, n2, n3, n4, n5, n6⟩, -⟩ := u2 d hd
    unfold jy_due
    rw [ga 2 _ (by decide)]
    exact ⟨n1.trans m1.symm, n2.trans m2.symm, n3.trans m3.symm, n4.trans m4.symm, n5.trans m5.symm, n6.trans m6.symm⟩
  · show nI (V 0 10 + 122) = jh_I hm 80 0 β + 122
    rw [s4]
    exact (jn_add rfl (show (122 : Int32) = nI 122 from rfl)).symm
  · have l := v17 w hw
    have c18 : jC hm β 18 w = nI (V 12 w) := (r w hw).1
    rcases (show V 12 w = 0 ∨ V 12 w = 1 by omega) with ee | ee
    · have z : jC hm β 18 w = 0 := c18.trans (congrArg nI ee)
      have en : jy_rn hm β w = 0 := if_pos z
      refine ⟨V 10 w, by rw [ga 26 ρ (by decide)]; exact (e w hw).1, by rw [ga 27 ρ (by decide), en, Nat.add_zero, l.2.2.2 ee]; exact (e w hw).2, by rw [en]; omega, fun q => absurd z q⟩
    · have z : ¬ jC hm β 18 w = 0 := by rw [c18, ee]; decide
      obtain ⟨k1, k2, k3, k4⟩ := K w hw ee
      obtain ⟨r2, r3, r4⟩ := (r w hw).2 ee
      have en : jy_rn hm β w = V 11 w - V 10 w := (if_neg z).trans k2
      have tr : ∀ q, q < V 11 w - V 10 w → jt_tr (D (V 10 w + q)) (jh_I hm 93 0 (620 * β + V 10 w + q)) (jh_I hm 94 0 (620 * β + V 10 w + q)) := fun q hq => by
        have := td (V 10 w + q) (by omega)
        rw [← Nat.add_assoc] at this
        exact this
      refine ⟨V 10 w, by rw [ga 26 ρ (by decide)]; exact (e w hw).1, by rw [ga 27 ρ (by decide), en, show V 10 w + (V 11 w - V 10 w) = V 11 w by omega]; exact (e w hw).2, by rw [en]; omega, fun _ => ?_⟩
      rw [k1, k2, ga 25 ρ (by decide), g7 13 (by decide) (by decide)]
      refine ⟨fun q hq => by rw [i3 _ (by omega)]; exact tr q hq, r4, fun y q hq => ?_⟩
      rcases i2 with ⟨-, j2⟩ | j2
      · have t1 := jt_tr_g (tr q hq)
        have t2 := j2 (V 10 w + q) (by omega)
        exact ⟨fun z => t2.1 (t1.1 z), fun z => t2.2 (t1.2 z)⟩
      · rw [j2] at y
        exact absurd y (by decide)
theorem jb_0s {d : Nat} (hd : d < 12) : ((0 : Int32) >>> (nI d &&& 31)) &&& 1 = 0 := by
  rw [jy_s_bt (by omega), b_0]
  rfl
/-- the class behind a good text -/
def jCGX (r : Nat) (h3 hX : jx_H) : Prop := (∀ a i, ¬ (i = 0 ∧ (a = 0 ∨ a = 1 ∨ a = 4 ∨ a = 9 ∨ a = 10 ∨ (32 ≤ a ∧ a ≤ 36) ∨ a = 62)) → jh_I hX a i = jh_I h3 a i) ∧ hX.2.1 = h3.2.1 ∧ (jh_M hX 10 0 11 = (1 - r) + 1 ∧ jh_M hX 10 0 12 = r + 1 ∧ jh_M hX 1 0 0 = (1 - r) + 1) ∧ jh_I hX 9 0 5 = 0 ∧
  (jh_I hX 10 0 15 = jh_I h3 6 0 8 ∧ jh_I hX 10 0 16 = jh_I h3 6 0 9 ∧ jh_I hX 10 0 13 = 0 ∧ jh_I hX 10 0 14 = jh_I h3 10 0 14) ∧ (jh_I hX 0 0 4 = 0 ∧ jh_I hX 0 0 5 = 0 ∧ jh_I hX 4 0 4 = 0) ∧ (∀ i, i < 3 → jh_I hX 62 0 i = 0) ∧
  (jh_I hX 1 0 2 = 0 ∧ jh_I hX 1 0 3 = 0 ∧ (∀ p, p < 5 → jh_I hX 32 0 p = 0 ∧ jh_I hX 33 0 p = jh_I h3 23 (1 - r) p) ∧ (∀ d, d < 12 → jh_I hX 34 0 d = 0 ∧ jh_I hX 35 0 d = 0 ∧ jh_I hX 36 0 d = 0))
/-- the model behind a good text -/
def jMGX (β np : Nat) (h hX : jx_H) : Prop := (∀ a i, ¬ (i = 0 ∧ (a = 11 ∨ a = 98 ∨ a = 122)) → jh_I hX a i = jh_I h a i) ∧ (∀ f, f ≠ 43 → f ≠ 60 → f ≠ 61 → f ≠ 65 → f ≠ 80 → jh_I hX 11 0 f = jh_I h 11 0 f) ∧ (jh_I hX 11 0 43 = nI β ∧ jh_I hX 11 0 60 = 0 ∧ jh_I hX 11 0 61 = 0 ∧ jh_I hX 11 0 65 = 0 ∧ jh_I hX 11 0 80 = 0) ∧
  (∀ j, j < 337 → jA hX j = if 7 ≤ j ∧ j < 7 + np then jh_I h 72 0 (5 * β + (j - 7)) else 0) ∧ ∀ i, i < 3 → jh_I hX 122 0 i = 0
theorem jz_Rel_good {hc hm h1 h2 h3 hX h0 hm2 hmX : jx_H} {r b s T t : Nat} {B : Nat → Int32} {V : Nat → Nat → Nat} {W : Nat → Nat → List Nat} {D : Nat → Int32} (hb : b < 2) (hr : r < 2) (hTi : jz_Ti hc hm) (hWo : jz_Wo hc) (fr : jFR r hc h3) (y : jLS h2 h1 B s T (1 - r) t V W D) (hs : V 0 5 = 1 ∧ h3 = h1 ∨ V 0 5 = 0 ∧ h3 = jFs h1 (1 - r) (30 * V 0 0) 1)
    (p : jRpre hm h0 (1 - b)) (f : jMF (1 - b) h0 hm2) (x : jML hm2 B s (1 - b) t V W D) (cX : jCGX r h3 hX) (mX : jMGX (1 - b) (V 0 1) hm2 hmX) : jz_Rel hX hmX := by
  obtain ⟨y1, y2, y3, v, y5, y6⟩ := id y
  have hβ : 1 - b < 2 := by omega
  have hpl : jT_p B s t ≤ s := jT_p_le
  have hc4 : V 0 4 ≤ 605 := by have := v.2.2.2.1; omega
  have R2 := jR_V x v hβ hc4
  obtain ⟨x1, x2, x3, x4, x5, x6, x7, ⟨x8, x9, x10, x11⟩⟩ := cX
  obtain ⟨m1, m2, ⟨m43, m60, m61, m65, m80⟩, mA, m122⟩ := mX
  have E : jBk (1 - b) hm2 hmX := fun a q h1 h2 _ _ => congrFun (m1 a 0 (fun y => by omega)) q
  have Ck : jCk (1 - r) h3 hX := ⟨fun a ha => x1 a _ (fun y => by omega), fun d hd => x1 2 _ (fun y => by omega)⟩
  have RX := jz_R_b E R2
  have YX := jy_R_b E Ck R2 (jy_R_V y2 x v hβ hc4 hs)
  have b1 : jh_I hm2 67 0 (1 - b) = nI (V 0 1) := x.2.1.2.1.1
  have v2 : V 0 1 ≤ 5 := v.2.1
  have np : jz_np hmX (1 - b) = V 0 1 := (jBk_np E).trans (jn_1 b1 (by omega))
  have a0 : jA hmX 0 = 0 := (mA 0 (by decide)).trans (if_neg (by omega))
  have a1 : jA hmX 1 = 0 := (mA 1 (by decide)).trans (if_neg (by omega))
  have hA : jz_A (jz_np hmX (1 - b)) (jz_nm hmX (1 - b)) (jA hmX) := ⟨⟨0, 0, a0, a1, by omega, by omega, fun _ => rfl⟩, fun q hq => by
    rw [np] at hq
    refine ⟨V 3 q, (mA (7 + q) (by omega)).trans ?_, v.2.2.2.2.2.1 q hq⟩
    rw [if_pos (by omega), show 7 + q - 7 = q by omega]
    exact (x.2.1.2.1.2 q hq).1⟩
  have hG : jz_G hmX (1 - b) (jA hmX) := ⟨hA, 0, a0, by omega, a1, fun j hj => absurd hj (Nat.not_lt_zero _)⟩
  have z8 : jh_I h3 6 0 8 = 0 ∧ jh_I h3 6 0 9 = -1 := by
    have e1 := y1.1.2.2.2.2.2
    rcases hs with ⟨-, rfl⟩ | ⟨-, rfl⟩
    · exact e1
    · exact e1
  have hnX : jy_np hX (1 - r) = V 0 1 := (jy_npR YX).trans np
  have q23 : ∀ q, q < V 0 1 → jh_I h3 23 (1 - r) q = nI (V 3 q) := fun q hq => by
    have e1 := (y2.2.1.2 q hq).1
    rcases hs with ⟨-, rfl⟩ | ⟨-, rfl⟩
    · exact e1
    · exact e1
  refine ⟨1 - b, 1 - r, ⟨⟨m43, hβ, RX, hA⟩, hG, by omega, x3.1, x3.2.1.trans (by omega), YX, ⟨x3.2.2, x8.trans a0.symm, x9.trans a1.symm, fun q hq => ⟨(x10 q hq).1.trans ((mA (2 + q) (by omega)).trans (if_neg (by omega))).symm, fun hq2 => ?_⟩, fun d hd => ⟨(x11 d hd).1.trans ((mA (12 + d) (by omega)).trans (if_neg (by omega))).symm, (x11 d hd).2.1.trans ((mA (24 + d) (by omega)).trans (if_neg (by omega))).symm, (x11 d hd).2.2.trans ?_⟩⟩, fun j hj => ?_⟩,
    ⟨0, x4, (m2 2 (by decide) (by decide) (by decide) (by decide) (by decide)).trans ((f.2.2.2.2.2 2 (by decide)).trans p.2.2.2.1), by decide, fun j hj => absurd hj (Nat.not_lt_zero _)⟩, ⟨x5.1.trans (z8.1.trans ((m2 4 (by decide) (by decide) (by decide) (by decide) (by decide)).trans x.1.2.2.1).symm), x5.2.1.trans (z8.2.trans ((m2 5 (by decide) (by decide) (by decide) (by decide) (by decide)).trans x.1.1.2.2.2).symm)⟩,
    ⟨0, by decide, x5.2.2.1, m65, fun j hj => absurd hj (Nat.not_lt_zero _)⟩, ?_, ⟨0, by decide, x6.2.2, m80, fun j hj => absurd hj (Nat.not_lt_zero _)⟩, fun i hi => ⟨(x7 i hi).trans (m122 i hi).symm, Or.inl (m122 i hi)⟩,
    ⟨0, 0, by decide, x6.1, x6.2.1, m60, m61, fun _ => jA hmX, rfl, fun j hj => absurd hj (Nat.not_lt_zero _), fun j _ hj => absurd hj (Nat.not_lt_zero _), fun _ _ => hG, fun _ _ _ _ => rfl, fun j hj => absurd hj (Nat.not_lt_zero _)⟩, fun i hi => ?_⟩
  · rw [hnX] at hq2
    rw [(x10 q hq).2, q23 q hq2, mA (7 + q) (by omega), if_pos (by omega), show 7 + q - 7 = q by omega]
    exact (x.2.1.2.1.2 q hq2).1.symm
  · rw [show jA hmX 36 = 0 from (mA 36 (by decide)).trans (if_neg (by omega)), jb_0s hd]
  · rw [a0] at hj
    exact absurd hj (Nat.not_lt_zero _)
  · obtain ⟨w, w1, w2, w3⟩ := hTi
    exact ⟨w, w1, x5.2.2.2.trans ((congrFun (fr.1 10 0 (by decide) (by decide) (by decide) (by decide) (fun y => by omega) (fun y => by omega)) 14).trans w2), (m2 81 (by decide) (by decide) (by decide) (by decide) (by decide)).trans ((f.2.2.2.2.2 81 (by decide)).trans ((p.2.2.1 81 (by decide) (by decide) (by decide) (by decide) (by decide) (by decide)).trans w3))⟩
  · exact (congrFun (congrFun (congrFun x2 17) 0) i).trans ((congrFun (fr.2.1 17 0 (by decide) (by decide) (by decide) (by decide) (by decide)) i).trans (hWo i hi))
