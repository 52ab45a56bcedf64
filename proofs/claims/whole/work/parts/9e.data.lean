/-! V: numbers told, W: names told -/
def jv2 (V : Nat → Nat → Nat) (a i x : Nat) : Nat → Nat → Nat := fun p q => if p = a ∧ q = i then x else V p q
theorem jv2_s (V : Nat → Nat → Nat) (a i x : Nat) : jv2 V a i x a i = x := if_pos ⟨rfl, rfl⟩
theorem jv2_n {V : Nat → Nat → Nat} {a i x p q : Nat} (h : ¬ (p = a ∧ q = i)) : jv2 V a i x p q = V p q := if_neg h
def jw2 (W : Nat → Nat → List Nat) (a i : Nat) (x : List Nat) : Nat → Nat → List Nat := fun p q => if p = a ∧ q = i then x else W p q
theorem jw2_s (W : Nat → Nat → List Nat) (a i : Nat) (x : List Nat) : jw2 W a i x a i = x := if_pos ⟨rfl, rfl⟩
theorem jw2_n {W : Nat → Nat → List Nat} {a i p q : Nat} {x : List Nat} (h : ¬ (p = a ∧ q = i)) : jw2 W a i x p q = W p q := if_neg h
/-- how many places of a row a bank of the model has -/
def jwd (a : Nat) : Nat := if a = 93 ∨ a = 94 then 620 else if a = 70 ∨ a = 71 ∨ a = 82 ∨ a = 83 ∨ a = 89 ∨ a = 90 then 6 else if a = 72 ∨ a = 91 then 5 else if a = 84 ∨ a = 92 ∨ (73 ≤ a ∧ a ≤ 77) then 12 else 1
/-- what a text may change in the model: bank β and the reader -/
def jMF (β : Nat) (h0 h : jx_H) : Prop := (∀ a b, a ≠ 11 → a < 66 ∨ 96 < a → jh_I h a b = jh_I h0 a b) ∧ (∀ a q, 66 ≤ a → a ≤ 94 → q < jwd a * β ∨ jwd a * β + jwd a ≤ q → jh_I h a 0 q = jh_I h0 a 0 q) ∧ (∀ a b, a ≠ 11 → a < 90 ∨ 92 < a → jh_L h a b = jh_L h0 a b) ∧ (∀ a q, 90 ≤ a → a ≤ 92 → q < jwd a * β ∨ jwd a * β + jwd a ≤ q → jh_L h a 0 q = jh_L h0 a 0 q) ∧ h.2.2 = h0.2.2 ∧ (∀ f, f < 4 ∨ (10 < f ∧ f < 45) ∨ 48 < f → jh_I h 11 0 f = jh_I h0 11 0 f)
theorem jMF_r (β : Nat) (h : jx_H) : jMF β h h := ⟨fun _ _ _ _ => rfl, fun _ _ _ _ _ => rfl, fun _ _ _ _ => rfl, fun _ _ _ _ _ => rfl, rfl, fun _ _ => rfl⟩
theorem jMF_G {β : Nat} {h0 h h' : jx_H} (f : jMF β h0 h) (g : jT_MG h h') : jMF β h0 h' := ⟨fun a b z1 z2 => (g.1 a b z1).trans (f.1 a b z1 z2), fun a q z1 z2 z3 => (congrFun (g.1 a 0 (by omega)) q).trans (f.2.1 a q z1 z2 z3), fun a b z1 z2 => (g.2.1 a b z1).trans (f.2.2.1 a b z1 z2), fun a q z1 z2 z3 => (congrFun (g.2.1 a 0 (by omega)) q).trans (f.2.2.2.1 a q z1 z2 z3), g.2.2.1.trans f.2.2.2.2.1, fun x hx => (g.2.2.2 x (by omega)).trans (f.2.2.2.2.2 x hx)⟩
theorem jMF_ft {β pl : Nat} {kd : Int32} {h0 h h' : jx_H} (f : jMF β h0 h) (g : jX_ft h h' kd pl) : jMF β h0 h' := ⟨fun a b z1 z2 => (g.1 a b z1).trans (f.1 a b z1 z2), fun a q z1 z2 z3 => (congrFun (g.1 a 0 (by omega)) q).trans (f.2.1 a q z1 z2 z3), fun a b z1 z2 => (congrFun (congrFun (congrArg (·.1) g.2.1) a) b).trans (f.2.2.1 a b z1 z2), fun a q z1 z2 z3 => (congrFun (congrFun (congrFun (congrArg (·.1) g.2.1) a) 0) q).trans (f.2.2.2.1 a q z1 z2 z3), (congrArg (·.2) g.2.1).trans f.2.2.2.2.1, fun x hx => (g.2.2.1 x (by omega) (by omega)).trans (f.2.2.2.2.2 x hx)⟩
theorem jMF_I {β a w q : Nat} {x : Int32} {h0 h : jx_H} (f : jMF β h0 h) (ha : 66 ≤ a ∧ a ≤ 94) (hw : jwd a = w) (h1 : w * β ≤ q) (h2 : q < w * β + w) : jMF β h0 (ju_I h a 0 (upd (jh_I h a 0) q x)) := by
  refine ⟨fun c b z1 z2 => (if_neg (fun y => by omega)).trans (f.1 c b z1 z2), fun c p z1 z2 z3 => ?_, f.2.2.1, f.2.2.2.1, f.2.2.2.2.1, fun y hy => (congrFun (if_neg (fun y => by omega)) _).trans (f.2.2.2.2.2 y hy)⟩
  by_cases e : c = a
  · subst e
    rw [jg_II, jg_un (by rw [hw] at z3; omega)]
    exact f.2.1 c p z1 z2 z3
  · exact (congrFun (if_neg (fun y => e y.1)) p).trans (f.2.1 c p z1 z2 z3)
theorem jMF_L {β a w q : Nat} {x : Int64} {h0 h : jx_H} (f : jMF β h0 h) (ha : 90 ≤ a ∧ a ≤ 92) (hw : jwd a = w) (h1 : w * β ≤ q) (h2 : q < w * β + w) : jMF β h0 (ju_L h a 0 (vp_updL (jh_L h a 0) q x)) := by
  refine ⟨f.1, f.2.1, fun c b z1 z2 => (if_neg (fun y => by omega)).trans (f.2.2.1 c b z1 z2), fun c p z1 z2 z3 => ?_, f.2.2.2.2⟩
  by_cases e : c = a
  · subst e
    rw [jg_LL, jg_Lun (by rw [hw] at z3; omega)]
    exact f.2.2.2.1 c p z1 z2 z3
  · exact (congrFun (if_neg (fun y => e y.1)) p).trans (f.2.2.2.1 c p z1 z2 z3)
/-- the words and numbers told are such as may be told -/
def jVD (V : Nat → Nat → Nat) (W : Nat → Nat → List Nat) : Prop := V 0 0 ≤ 6 ∧ V 0 1 ≤ 5 ∧ V 0 2 ≤ 12 ∧ V 0 3 ≤ 90 ∧ (∀ j, j < V 0 0 → V 1 j ≤ V 2 j ∧ V 2 j ≤ 31) ∧ (∀ p, p < V 0 1 → V 3 p ≤ 9) ∧
  (∀ d, d < V 0 2 → V 4 d < V 0 1 ∧ V 5 d < V 0 1 ∧ V 4 d ≠ V 5 d ∧ 1 ≤ V 6 d ∧ V 6 d ≤ 99 ∧ 1 ≤ V 7 d ∧ V 7 d ≤ 31 ∧ V 8 d < V 0 0 ∧ V 9 d ≤ 1) ∧ V 0 5 ≤ 1 ∧ (V 0 5 = 1 → V 0 8 ≤ 18512 ∧ 1 ≤ V 0 9 ∧ V 0 9 ≤ 99) ∧ (V 0 5 = 0 → V 0 8 = 0 ∧ V 0 9 = 0) ∧ V 0 6 ≤ 1 ∧ V 0 7 ≤ 1 ∧ V 0 10 ≤ 2 ∧ 1 ≤ V 0 11 ∧ V 0 11 ≤ 9 ∧ V 0 12 ≤ 1 ∧
  (∀ w, w < 6 → V 12 w ≤ 1 ∧ V 10 w ≤ V 11 w ∧ V 11 w ≤ V 0 4 ∧ (V 12 w = 0 → V 10 w = V 11 w)) ∧ (∀ w, V 0 1 ≤ w → w < 5 → V 12 w = 0) ∧ jnW (W 0) (V 0 0) ∧ jnW (W 1) (V 0 1) ∧ jnW (W 2) (V 0 2)
/-- a rule of the model's bank -/
def jMr (h : jx_H) (β w s e v : Nat) : Prop := jh_I h 89 0 (6 * β + w) = nI v ∧ (v = 1 → jh_I h 82 0 (6 * β + w) = nI (620 * β + s) ∧ jh_I h 83 0 (6 * β + w) = nI (620 * β + e) ∧ jw_okb 40 (jh_I h 93 0) (e - s) (620 * β + s) 0)
/-- a due of the model's bank -/
def jMd (h : jx_H) (β d : Nat) (V : Nat → Nat → Nat) : Prop := jh_I h 73 0 (12 * β + d) = nI (V 4 d) ∧ jh_I h 74 0 (12 * β + d) = nI (V 5 d) ∧ jh_I h 75 0 (12 * β + d) = nI (V 6 d) ∧ jh_I h 76 0 (12 * β + d) = nI (V 7 d) ∧ jh_I h 77 0 (12 * β + d) = nI (V 8 d) ∧ jh_I h 84 0 (12 * β + d) = nI (V 9 d)
/-- the model's bank β holds what was told -/
def jMD (h : jx_H) (β : Nat) (V : Nat → Nat → Nat) (W : Nat → Nat → List Nat) : Prop := (jh_I h 66 0 β = nI (V 0 0) ∧ ∀ j, j < V 0 0 → jh_I h 70 0 (6 * β + j) = nI (V 1 j) ∧ jh_I h 71 0 (6 * β + j) = nI (V 2 j) ∧ jh_L h 90 0 (6 * β + j) = jT_key (W 0 j)) ∧
  (jh_I h 67 0 β = nI (V 0 1) ∧ ∀ p, p < V 0 1 → jh_I h 72 0 (5 * β + p) = nI (V 3 p) ∧ jh_L h 91 0 (5 * β + p) = jT_key (W 1 p)) ∧
  (jh_I h 68 0 β = nI (V 0 2) ∧ ∀ d, d < V 0 2 → jMd h β d V ∧ jh_L h 92 0 (12 * β + d) = jT_key (W 2 d)) ∧
  (∀ w, w < 6 → jMr h β w (V 10 w) (V 11 w) (V 12 w)) ∧ (jh_I h 85 0 β = nI (V 0 5) ∧ (V 0 5 = 1 → jh_I h 78 0 β = nI (V 0 8) ∧ jh_I h 79 0 β = nI (V 0 9))) ∧ jh_I h 86 0 β = nI (V 0 6) ∧ jh_I h 80 0 β = nI (V 0 10) ∧ jh_I h 87 0 β = nI (V 0 7) ∧ jh_I h 81 0 β = nI (V 0 11) ∧ jh_I h 88 0 β = nI (V 0 12)
/-- the model between its lines -/
def jML (h : jx_H) (B : Nat → Int32) (sz β t : Nat) (V : Nat → Nat → Nat) (W : Nat → Nat → List Nat) (D : Nat → Int32) : Prop := jXL h B sz β t (V 0 3) (V 0 4) (jh_I h 93 0) (jh_I h 94 0) ∧ jMD h β V W ∧ jTd β (V 0 4) D (jh_I h 93 0) (jh_I h 94 0)
/-- a due in the class -/
def jCd (h : jx_H) (ρ d : Nat) (V : Nat → Nat → Nat) : Prop := jh_I h 2 (12 * ρ + d) 0 = nI (V 4 d) ∧ jh_I h 2 (12 * ρ + d) 1 = nI (V 5 d) ∧ jh_I h 2 (12 * ρ + d) 2 = nI (V 6 d) ∧ jh_I h 2 (12 * ρ + d) 3 = nI (V 7 d) ∧ jh_I h 2 (12 * ρ + d) 4 = nI (V 8 d) ∧ jh_I h 2 (12 * ρ + d) 5 = nI (V 9 d)
/-- the class's draft holds what was told -/
def jCD (h : jx_H) (ρ : Nat) (V : Nat → Nat → Nat) (W : Nat → Nat → List Nat) (D : Nat → Int32) : Prop := (jh_I h 7 ρ 0 = nI (V 0 0) ∧ ∀ j, j < V 0 0 → jh_I h 21 ρ j = nI (V 1 j) ∧ jh_I h 22 ρ j = nI (V 2 j) ∧ jh_L h 28 0 j = jy_key (W 0 j)) ∧
  (jh_I h 7 ρ 3 = nI (V 0 1) ∧ ∀ p, p < V 0 1 → jh_I h 23 ρ p = nI (V 3 p) ∧ jh_L h 29 0 p = jy_key (W 1 p)) ∧
  (jh_I h 7 ρ 5 = nI (V 0 2) ∧ ∀ d, d < V 0 2 → jCd h ρ d V ∧ jh_L h 30 0 d = jy_key (W 2 d)) ∧
  (∀ w, w < 6 → jh_I h 26 ρ w = nI (V 10 w) ∧ jh_I h 27 ρ w = nI (V 11 w)) ∧ jh_I h 7 ρ 7 = nI (V 0 8) ∧ jh_I h 7 ρ 8 = nI (V 0 9) ∧ jh_I h 7 ρ 9 = nI (V 0 10 + 122) ∧ jh_I h 7 ρ 10 = nI (V 0 11) ∧ jh_I h 7 ρ 11 = nI (V 0 12) ∧ jh_I h 7 ρ 12 = nI (V 0 3) ∧ jh_I h 7 ρ 15 = nI (V 0 4) ∧
  jh_I h 6 0 5 = nI (V 0 5 + 2 * V 12 5 + 4 * V 0 6 + 8 * V 0 7) ∧ (jh_I h 7 ρ 13 = 0 ∧ (∀ q, q < V 0 4 → D q ≠ -102 ∧ D q ≠ -103) ∨ jh_I h 7 ρ 13 = 1) ∧ (∀ q, q < V 0 4 → jh_I h 25 ρ q = D q) ∧ jh_M h 6 0 4 = ρ + 1
/-- what a text may change in the class: the draft and the reader -/
def jCF (ρ : Nat) (h0 h : jx_H) : Prop := (∀ a b, a ≠ 9 → a ≠ 6 → ¬ (b = ρ ∧ (a = 7 ∨ (21 ≤ a ∧ a ≤ 27))) → ¬ (a = 2 ∧ 12 * ρ ≤ b ∧ b < 12 * ρ + 12) → jh_I h a b = jh_I h0 a b) ∧ (∀ a b, a ≠ 9 → a ≠ 28 → a ≠ 29 → a ≠ 30 → jh_L h a b = jh_L h0 a b) ∧ h.2.2 = h0.2.2 ∧ (∀ f, f < 7 → jh_I h 9 0 f = jh_I h0 9 0 f)
theorem jCF_r (ρ : Nat) (h : jx_H) : jCF ρ h h := ⟨fun _ _ _ _ _ _ => rfl, fun _ _ _ _ _ _ => rfl, rfl, fun _ _ => rfl⟩
theorem jCF_t {ρ : Nat} {a b c : jx_H} (f : jCF ρ a b) (g : jCF ρ b c) : jCF ρ a c := ⟨fun x y z1 z2 z3 z4 => (g.1 x y z1 z2 z3 z4).trans (f.1 x y z1 z2 z3 z4), fun x y z1 z2 z3 z4 => (g.2.1 x y z1 z2 z3 z4).trans (f.2.1 x y z1 z2 z3 z4), g.2.2.1.trans f.2.2.1, fun x z => (g.2.2.2 x z).trans (f.2.2.2 x z)⟩
theorem jCF_f {ρ : Nat} {h0 h h' : jx_H} (f : jCF ρ h0 h) (g : jCf h h') : jCF ρ h0 h' := ⟨fun a b z1 z2 z3 z4 => (g.1 a b z1 z2).trans (f.1 a b z1 z2 z3 z4), fun a b z1 z2 z3 z4 => (g.2.1 a b z1).trans (f.2.1 a b z1 z2 z3 z4), g.2.2.1.trans f.2.2.1, fun x z => (g.2.2.2.1 x z).trans (f.2.2.2 x z)⟩
theorem jCD_f {h h' : jx_H} {ρ : Nat} {V : Nat → Nat → Nat} {W : Nat → Nat → List Nat} {D : Nat → Int32} (x : jCD h ρ V W D) (g : jCf h h') : jCD h' ρ V W D := by
  obtain ⟨⟨a1, a2⟩, ⟨b1, b2⟩, ⟨c1, c2⟩, e, f1, f2, f3, f4, f5, f6, f7, i1, i2, i3, i4⟩ := x
  have g7 : jh_I h' 7 ρ = jh_I h 7 ρ := g.1 7 ρ (by decide) (by decide)
  refine ⟨⟨(congrFun g7 0).trans a1, fun j hj => ⟨(congrFun (g.1 21 ρ (by decide) (by decide)) j).trans (a2 j hj).1, (congrFun (g.1 22 ρ (by decide) (by decide)) j).trans (a2 j hj).2.1, (congrFun (g.2.1 28 0 (by decide)) j).trans (a2 j hj).2.2⟩⟩,
    ⟨(congrFun g7 3).trans b1, fun j hj => ⟨(congrFun (g.1 23 ρ (by decide) (by decide)) j).trans (b2 j hj).1, (congrFun (g.2.1 29 0 (by decide)) j).trans (b2 j hj).2⟩⟩,
    ⟨(congrFun g7 5).trans c1, fun j hj => ⟨?_, (congrFun (g.2.1 30 0 (by decide)) j).trans (c2 j hj).2⟩⟩,
    fun w hw => ⟨(congrFun (g.1 26 ρ (by decide) (by decide)) w).trans (e w hw).1, (congrFun (g.1 27 ρ (by decide) (by decide)) w).trans (e w hw).2⟩,
    (congrFun g7 7).trans f1, (congrFun g7 8).trans f2, (congrFun g7 9).trans f3, (congrFun g7 10).trans f4, (congrFun g7 11).trans f5, (congrFun g7 12).trans f6, (congrFun g7 15).trans f7, (g.2.2.2.2 5 (by decide)).trans i1, by rw [congrFun g7 13]; exact i2, fun q hq => (congrFun (g.1 25 ρ (by decide) (by decide)) q).trans (i3 q hq), by rw [show jh_M h' 6 0 = jh_M h 6 0 from congrFun (congrFun (congrArg (·.1) g.2.2.1) 6) 0]; exact i4⟩
  unfold jCd
  rw [g.1 2 (12 * ρ + j) (by decide) (by decide)]
  exact (c2 j hj).1
