theorem jw_okb_c {b : Nat} {cd cd' : Nat → Int32} : ∀ n k m, (∀ q, k ≤ q → q < k + n → cd' q = cd q) → jw_okb b cd n k m → jw_okb b cd' n k m
  | 0, _, _, _, h => h
  | n + 1, k, m, e, h => by
    rw [jw_okb] at h ⊢
    rw [e k (by omega) (by omega)]
    rcases h with ⟨h1, h2, h3⟩ | ⟨h1, h2, h3, h4⟩ | ⟨h1, h2, h3, h4⟩
    · exact Or.inl ⟨h1, h2, jw_okb_c n _ _ (fun q z1 z2 => e q (by omega) (by omega)) h3⟩
    · exact Or.inr (Or.inl ⟨h1, h2, h3, jw_okb_c n _ _ (fun q z1 z2 => e q (by omega) (by omega)) h4⟩)
    · exact Or.inr (Or.inr ⟨h1, h2, h3, jw_okb_c n _ _ (fun q z1 z2 => e q (by omega) (by omega)) h4⟩)
theorem jMF_R {β c : Nat} {h0 h h' : jx_H} (f : jMF β h0 h) (g : jXR β h h') (a8 : ∀ q, q < 6 * β ∨ 6 * β + 6 ≤ q → jh_I h' 82 0 q = jh_I h 82 0 q ∧ jh_I h' 83 0 q = jh_I h 83 0 q ∧ jh_I h' 89 0 q = jh_I h 89 0 q) (ag : jAg β c (jh_I h 93 0) (jh_I h 94 0) (jh_I h' 93 0) (jh_I h' 94 0)) : jMF β h0 h' := by
  refine ⟨fun a b z1 z2 => (g.1 a b z1 (by omega) (by omega) (by omega) (by omega) (by omega) (by omega) (by omega) (by omega)).trans (f.1 a b z1 z2), fun a q z1 z2 z3 => ?_, fun a b z1 z2 => (g.2.1 a b z1).trans (f.2.2.1 a b z1 z2), fun a q z1 z2 z3 => (congrFun (g.2.1 a 0 (by omega)) q).trans (f.2.2.2.1 a q z1 z2 z3), g.2.2.1.trans f.2.2.2.2.1, fun x hx => (g.2.2.2.1 x hx).trans (f.2.2.2.2.2 x hx)⟩
  refine Eq.trans ?_ (f.2.1 a q z1 z2 z3)
  by_cases e1 : a = 69
  · subst e1
    have e : jwd 69 = 1 := rfl
    rw [e] at z3
    exact g.2.2.2.2 q (by omega)
  by_cases e2 : a = 82
  · subst e2
    have e : jwd 82 = 6 := rfl
    rw [e] at z3
    exact (a8 q (by omega)).1
  by_cases e3 : a = 83
  · subst e3
    have e : jwd 83 = 6 := rfl
    rw [e] at z3
    exact (a8 q (by omega)).2.1
  by_cases e4 : a = 89
  · subst e4
    have e : jwd 89 = 6 := rfl
    rw [e] at z3
    exact (a8 q (by omega)).2.2
  by_cases e5 : a = 93
  · subst e5
    have e : jwd 93 = 620 := rfl
    rw [e] at z3
    exact (ag q (by omega)).1
  by_cases e6 : a = 94
  · subst e6
    have e : jwd 94 = 620 := rfl
    rw [e] at z3
    exact (ag q (by omega)).2
  exact congrFun (g.1 a 0 (by omega) e1 e2 e3 e4 e5 e6 (by omega) (by omega)) q
def jVr (V : Nat → Nat → Nat) (w u c : Nat) : Nat → Nat → Nat := jv2 (jv2 (jv2 (jv2 (jv2 V 0 3 u) 10 w (V 0 4)) 11 w c) 12 w 1) 0 4 c
theorem jVr_n {V : Nat → Nat → Nat} {w u c : Nat} {p q : Nat} (h : p ≠ 0) (h1 : ¬ (10 ≤ p ∧ p ≤ 12 ∧ q = w)) : jVr V w u c p q = V p q := by
  unfold jVr
  rw [jv2_n (fun y => by omega), jv2_n (fun y => by omega), jv2_n (fun y => by omega), jv2_n (fun y => by omega), jv2_n (fun y => by omega)]
theorem jVr_0 {V : Nat → Nat → Nat} {w u c : Nat} {q : Nat} (h : q ≠ 3) (h1 : q ≠ 4) : jVr V w u c 0 q = V 0 q := by
  unfold jVr
  rw [jv2_n (fun y => by omega), jv2_n (fun y => by omega), jv2_n (fun y => by omega), jv2_n (fun y => by omega), jv2_n (fun y => by omega)]
theorem jVr_s (V : Nat → Nat → Nat) (w u c : Nat) : jVr V w u c 10 w = V 0 4 ∧ jVr V w u c 11 w = c ∧ jVr V w u c 12 w = 1 ∧ jVr V w u c 0 3 = u ∧ jVr V w u c 0 4 = c := by
  unfold jVr
  refine ⟨?_, ?_, ?_, ?_, ?_⟩
  · rw [jv2_n (fun y => by omega), jv2_n (fun y => by omega), jv2_n (fun y => by omega), jv2_s]
  · rw [jv2_n (fun y => by omega), jv2_n (fun y => by omega), jv2_s]
  · rw [jv2_n (fun y => by omega), jv2_s]
  · rw [jv2_n (fun y => by omega), jv2_n (fun y => by omega), jv2_n (fun y => by omega), jv2_n (fun y => by omega), jv2_s]
  · rw [jv2_s]
theorem jML_rule {h h' : jx_H} {B : Nat → Int32} {sz β t t' w u c : Nat} {V : Nat → Nat → Nat} {W : Nat → Nat → List Nat} {D D' : Nat → Int32} (x : jML h B sz β t V W D) (hw : w < 6) (hV : ∀ w, w < 6 → V 11 w ≤ V 0 4) (hl : jXL h' B sz β t' u c (jh_I h' 93 0) (jh_I h' 94 0)) (g : jXR β h h') (e82 : jh_I h' 82 0 = upd (jh_I h 82 0) (6 * β + w) (nI (620 * β + V 0 4))) (e83 : jh_I h' 83 0 = upd (jh_I h 83 0) (6 * β + w) (nI (620 * β + c))) (e89 : jh_I h' 89 0 = upd (jh_I h 89 0) (6 * β + w) 1) (ag : jAg β (V 0 4) (jh_I h 93 0) (jh_I h 94 0) (jh_I h' 93 0) (jh_I h' 94 0)) (td : jTd β c D' (jh_I h' 93 0) (jh_I h' 94 0)) (ok : jw_okb 40 (jh_I h' 93 0) (c - V 0 4) (620 * β + V 0 4) 0) :
    jML h' B sz β t' (jVr V w u c) W D' := by
  obtain ⟨-, ⟨⟨a1, a2⟩, ⟨b1, b2⟩, ⟨c1, c2⟩, r, ⟨s1, s2⟩, s3, s4, s5, s6, s7⟩, d⟩ := x
  obtain ⟨v1, v2, v3, v4, v5⟩ := jVr_s V w u c
  have f : ∀ a, a ≠ 11 → a ≠ 69 → a ≠ 82 → a ≠ 83 → a ≠ 89 → a ≠ 93 → a ≠ 94 → a ≠ 95 → a ≠ 96 → jh_I h' a 0 = jh_I h a 0 := fun a => g.1 a 0
  refine ⟨by rw [v4, v5]; exact hl, ⟨⟨by rw [f 66 (by decide) (by decide) (by decide) (by decide) (by decide) (by decide) (by decide) (by decide) (by decide), jVr_0 (by decide) (by decide)]; exact a1, fun j hj => ?_⟩, ⟨by rw [f 67 (by decide) (by decide) (by decide) (by decide) (by decide) (by decide) (by decide) (by decide) (by decide), jVr_0 (by decide) (by decide)]; exact b1, fun p hp => ?_⟩, ⟨by rw [f 68 (by decide) (by decide) (by decide) (by decide) (by decide) (by decide) (by decide) (by decide) (by decide), jVr_0 (by decide) (by decide)]; exact c1, fun p hp => ?_⟩, fun q hq => ?_,
    ⟨by rw [f 85 (by decide) (by decide) (by decide) (by decide) (by decide) (by decide) (by decide) (by decide) (by decide), jVr_0 (by decide) (by decide)]; exact s1, fun q => ?_⟩, by rw [f 86 (by decide) (by decide) (by decide) (by decide) (by decide) (by decide) (by decide) (by decide) (by decide), jVr_0 (by decide) (by decide)]; exact s3, by rw [f 80 (by decide) (by decide) (by decide) (by decide) (by decide) (by decide) (by decide) (by decide) (by decide), jVr_0 (by decide) (by decide)]; exact s4, by rw [f 87 (by decide) (by decide) (by decide) (by decide) (by decide) (by decide) (by decide) (by decide) (by decide), jVr_0 (by decide) (by decide)]; exact s5, by rw [f 81 (by decide) (by decide) (by decide) (by decide) (by decide) (by decide) (by decide) (by decide) (by decide), jVr_0 (by decide) (by decide)]; exact s6, by rw [f 88 (by decide) (by decide) (by decide) (by decide) (by decide) (by decide) (by decide) (by decide) (by decide), jVr_0 (by decide) (by decide)]; exact s7⟩, by rw [v5]; exact td⟩
  · rw [jVr_0 (by decide) (by decide)] at hj
    rw [f 70 (by decide) (by decide) (by decide) (by decide) (by decide) (by decide) (by decide) (by decide) (by decide), f 71 (by decide) (by decide) (by decide) (by decide) (by decide) (by decide) (by decide) (by decide) (by decide), g.2.1 90 0 (by decide), jVr_n (by decide) (by omega), jVr_n (by decide) (by omega)]
    exact a2 j hj
  · rw [jVr_0 (by decide) (by decide)] at hp
    rw [f 72 (by decide) (by decide) (by decide) (by decide) (by decide) (by decide) (by decide) (by decide) (by decide), g.2.1 91 0 (by decide), jVr_n (by decide) (by omega)]
    exact b2 p hp
  · rw [jVr_0 (by decide) (by decide)] at hp
    unfold jMd
    rw [f 73 (by decide) (by decide) (by decide) (by decide) (by decide) (by decide) (by decide) (by decide) (by decide), f 74 (by decide) (by decide) (by decide) (by decide) (by decide) (by decide) (by decide) (by decide) (by decide), f 75 (by decide) (by decide) (by decide) (by decide) (by decide) (by decide) (by decide) (by decide) (by decide), f 76 (by decide) (by decide) (by decide) (by decide) (by decide) (by decide) (by decide) (by decide) (by decide), f 77 (by decide) (by decide) (by decide) (by decide) (by decide) (by decide) (by decide) (by decide) (by decide), f 84 (by decide) (by decide) (by decide) (by decide) (by decide) (by decide) (by decide) (by decide) (by decide), g.2.1 92 0 (by decide), jVr_n (by decide) (by omega), jVr_n (by decide) (by omega), jVr_n (by decide) (by omega), jVr_n (by decide) (by omega), jVr_n (by decide) (by omega), jVr_n (by decide) (by omega)]
    exact c2 p hp
  · unfold jMr
    rw [e82, e83, e89]
    by_cases e : q = w
    · subst e
      rw [v1, v2, v3, jg_us, jg_us, jg_us]
      exact ⟨rfl, fun _ => ⟨rfl, rfl, ok⟩⟩
    · rw [jg_un (by omega), jg_un (by omega), jg_un (by omega), jVr_n (by decide) (by omega), jVr_n (by decide) (by omega), jVr_n (by decide) (by omega)]
      refine ⟨(r q hq).1, fun y => ⟨((r q hq).2 y).1, ((r q hq).2 y).2.1, ?_⟩⟩
      have h11 := hV q hq
      exact jw_okb_c _ _ _ (fun z z1 z2 => (ag z (by omega)).1) ((r q hq).2 y).2.2
  · rw [jVr_0 (by decide) (by decide)] at q
    rw [f 78 (by decide) (by decide) (by decide) (by decide) (by decide) (by decide) (by decide) (by decide) (by decide), f 79 (by decide) (by decide) (by decide) (by decide) (by decide) (by decide) (by decide) (by decide) (by decide), jVr_0 (by decide) (by decide), jVr_0 (by decide) (by decide)]
    exact s2 q
theorem eM_ruleV {d : Nat} {h0 h : jx_H} {Q : Option jx_V → jx_H → Prop} {B : Nat → Int32} {sz β t w x t' c' : Nat} {V : Nat → Nat → Nat} {W : Nat → Nat → List Nat} {D : Nat → Int32} (hx : jML h B sz β t V W D) (F : jMF β h0 h) (hβ : β < 2) (hw : w < 6) (hV : ∀ w, w < 6 → V 11 w ≤ V 0 4) (hx40 : x ≤ 40) (hTR : jTR B sz β 0 0 1 1 t (V 0 3) 0 (V 0 4) x t' c' D) (hrk : jT_rk (jT_K B sz t') = 0) (k : ∀ h', jMF β h0 h' → jXR β h h' → jML h' B sz β t' (jVr V w (V 0 3 + x) c') W D → Q none h') : jx_Ev jm_MD_readRule (d + 9) 0 0 false 1 [jv_r 11 0, jv_i (nI w)] h Q := by
  refine eM_rule hx.1 hβ hw hx.2.2 hTR (fun _ h' C' N' x1 x2 x3 x4 x5 x6 x7 x8 => ?_) (fun y => absurd (hrk.symm.trans y) (by decide))
  obtain ⟨-, -, -, -, -, -, eC, eN⟩ := id x1
  subst eC
  subst eN
  refine k h' (jMF_R F x2 (fun q hq => ?_) x6) x2 (jML_rule hx hw hV x1 x2 x3 x4 x5 x6 x7 (jw_sg_okb _ _ _ (x8 0 (by omega))))
  rw [x3, x4, x5, jg_un (by omega), jg_un (by omega), jg_un (by omega)]
  exact ⟨rfl, rfl, rfl⟩
theorem eM_ruleV4 {d : Nat} {h0 h : jx_H} {Q : Option jx_V → jx_H → Prop} {B : Nat → Int32} {sz β t w x t' c' : Nat} {V : Nat → Nat → Nat} {W : Nat → Nat → List Nat} {D : Nat → Int32} (hx : jML h B sz β t V W D) (F : jMF β h0 h) (hβ : β < 2) (hw : w < 6) (hTR : jTR B sz β 0 0 1 1 t (V 0 3) 0 (V 0 4) x t' c' D) (hrk : jT_rk (jT_K B sz t') = 4) (k : ∀ h', jMF β h0 h' → jXR β h h' → jh_I h' 11 0 4 = 2 → jPl h' (jT_p B sz t') → Q none h') : jx_Ev jm_MD_readRule (d + 9) 0 0 false 1 [jv_r 11 0, jv_i (nI w)] h Q := by
  exact eM_rule hx.1 hβ hw hx.2.2 hTR (fun y => absurd (hrk.symm.trans y) (by decide)) (fun _ h' x1 x2 x3 x4 x5 => k h' (jMF_R F x1 x2 x3) x1 x4 x5)
theorem eM_ruleVB {d : Nat} {h0 h : jx_H} {Q : Option jx_V → jx_H → Prop} {B : Nat → Int32} {sz β t w pl : Nat} {kd : Int32} {V : Nat → Nat → Nat} {W : Nat → Nat → List Nat} {D : Nat → Int32} (hx : jML h B sz β t V W D) (F : jMF β h0 h) (hβ : β < 2) (hw : w < 6) (hkd : kd = 1 ∨ kd = 2) (hTB : jTB B sz β 0 0 1 t (V 0 3) 0 (V 0 4) kd pl D) (k : ∀ h', jMF β h0 h' → jXR β h h' → jh_I h' 11 0 4 = kd → jPl h' pl → Q none h') : jx_Ev jm_MD_readRule (d + 9) 0 0 false 1 [jv_r 11 0, jv_i (nI w)] h Q := by
  exact eM_ruleB (x := 0) (t' := 0) (c' := 0) hx.1 hβ hw hx.2.2 hkd hTB (fun h' x1 x2 x3 x4 x5 => k h' (jMF_R F x1 x2 x3) x1 x4 x5)
