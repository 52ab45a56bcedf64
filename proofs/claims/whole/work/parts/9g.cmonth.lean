theorem jT_p_S {B : Nat → Int32} {sz t : Nat} : jT_p B sz t ≤ jT_p B sz (t + 1) := by
  have h1 := (jT_f_le (B := B) (sz := sz) (jT_p_le (B := B) (t := t))).1
  have h2 := (jT_a_b (B := B) (jT_E_le (B := B) (sz := sz) (t + 1))).1
  show jT_p B sz t ≤ jT_a B sz (jT_E B sz (t + 1))
  have h3 : jT_E B sz (t + 1) = jT_f B sz (jT_p B sz t) := rfl
  omega
theorem jT_p_mn {B : Nat → Int32} {sz t : Nat} : ∀ k, jT_p B sz t ≤ jT_p B sz (t + k)
  | 0 => Nat.le_refl _
  | k + 1 => Nat.le_trans (jT_p_mn k) jT_p_S
/-- the class between lines -/
def jLS (h0 h : jx_H) (B : Nat → Int32) (sz T ρ t : Nat) (V : Nat → Nat → Nat) (W : Nat → Nat → List Nat) (D : Nat → Int32) : Prop := jTS h B sz T t ∧ jCD h ρ V W D ∧ jCF ρ h0 h ∧ jVD V W ∧ 4 * V 0 4 ≤ 8 * V 0 3 + jT_p B sz t ∧ sz ≤ 1700
/-- what a method of the model does with what is told well, or not -/
def jLG (M : jx_M) (K : Nat) (B : Nat → Int32) (sz β t : Nat) (V : Nat → Nat → Nat) (W : Nat → Nat → List Nat) (D : Nat → Int32) (t' : Nat) (V' : Nat → Nat → Nat) (W' : Nat → Nat → List Nat) (D' : Nat → Int32) : Prop := ∀ (d : Nat) (h0 h : jx_H) (Q : Option jx_V → jx_H → Prop), jML h B sz β t V W D → jMF β h0 h → (∀ h', jMF β h0 h' → jML h' B sz β t' V' W' D' → Q none h') → jx_Ev M (d + K) 0 0 false 1 [jv_r 11 0] h Q
def jLB (M : jx_M) (K : Nat) (B : Nat → Int32) (sz β t : Nat) (V : Nat → Nat → Nat) (W : Nat → Nat → List Nat) (D : Nat → Int32) (kd : Int32) (pl : Nat) : Prop := ∀ (d : Nat) (h0 h : jx_H) (Q : Option jx_V → jx_H → Prop), jML h B sz β t V W D → jMF β h0 h → (∀ h', jMF β h0 h' → jh_I h' 11 0 4 = kd → jPl h' pl → Q none h') → jx_Ev M (d + K) 0 0 false 1 [jv_r 11 0] h Q
/-- how many lines were told -/
def jsm (V : Nat → Nat → Nat) : Nat := V 0 0 + V 0 1 + V 0 2 + V 0 5 + V 12 5 + V 0 6 + V 0 7
/-- a fault is one, and has its place -/
def jFk (sz : Nat) (kd : Int32) (pl : Nat) : Prop := ¬ kd = 0 ∧ pl ≤ sz
/-- a line's outcome in the class -/
def jLO (M : jx_M) (K : Nat) (h0 : jx_H) (B : Nat → Int32) (sz T β ρ t : Nat) (V : Nat → Nat → Nat) (W : Nat → Nat → List Nat) (D : Nat → Int32) (r : Option jx_V) (h' : jx_H) : Prop :=
  (r = some (jv_i 1) ∧ ∃ t' V' W' D', jsm V' = jsm V + 1 ∧ jLS h0 h' B sz T ρ t' V' W' D' ∧ jLG M K B sz β t V W D t' V' W' D') ∨
  (r = some (jv_i 0) ∧ ∃ kd pl, jCF ρ h0 h' ∧ jh_I h' 6 0 8 = kd ∧ jh_I h' 6 0 9 = nI pl ∧ jFk sz kd pl ∧ jLB M K B sz β t V W D kd pl)
theorem jCF_I {ρ a : Nat} {h0 h : jx_H} {F : Nat → Int32} (f : jCF ρ h0 h) (ha : a = 7 ∨ (21 ≤ a ∧ a ≤ 27)) : jCF ρ h0 (ju_I h a ρ F) := ⟨fun c b z1 z2 z3 z4 => (if_neg (fun y => z3 ⟨y.2, by omega⟩)).trans (f.1 c b z1 z2 z3 z4), f.2.1, f.2.2.1, fun x hx => (congrFun (if_neg (fun y => by omega)) x).trans (f.2.2.2 x hx)⟩
theorem jCF_6 {ρ : Nat} {h0 h : jx_H} {F : Nat → Int32} (f : jCF ρ h0 h) : jCF ρ h0 (ju_I h 6 0 F) := ⟨fun c b z1 z2 z3 z4 => (if_neg (fun y => z2 y.1)).trans (f.1 c b z1 z2 z3 z4), f.2.1, f.2.2.1, f.2.2.2⟩
theorem jCF_2 {ρ i : Nat} {h0 h : jx_H} {F : Nat → Int32} (f : jCF ρ h0 h) (h1 : 12 * ρ ≤ i) (h2 : i < 12 * ρ + 12) : jCF ρ h0 (ju_I h 2 i F) := ⟨fun c b z1 z2 z3 z4 => (if_neg (fun y => z4 ⟨y.1, by omega, by omega⟩)).trans (f.1 c b z1 z2 z3 z4), f.2.1, f.2.2.1, f.2.2.2⟩
theorem jCF_L {ρ a : Nat} {h0 h : jx_H} {F : Nat → Int64} (f : jCF ρ h0 h) (ha : a = 28 ∨ a = 29 ∨ a = 30) : jCF ρ h0 (ju_L h a 0 F) := ⟨f.1, fun c b z1 z2 z3 z4 => (if_neg (fun y => by omega)).trans (f.2.1 c b z1 z2 z3 z4), f.2.2⟩
def jFm (h : jx_H) (ρ n lo hi : Nat) : jx_H := ju_I (ju_I (ju_I h 21 ρ (upd (jh_I h 21 ρ) n (nI lo))) 22 ρ (upd (jh_I h 22 ρ) n (nI hi))) 7 ρ (upd (jh_I h 7 ρ) 0 (nI (n + 1)))
theorem jLS_month {h0 h h5 : jx_H} {B : Nat → Int32} {sz T ρ t t' lo hi : Nat} {w : List Nat} {V : Nat → Nat → Nat} {W : Nat → Nat → List Nat} {D : Nat → Int32} (x : jLS h0 h B sz T ρ t V W D) (g : jCf (ju_L h 28 0 (vp_updL (jh_L h 28 0) (V 0 0) (jy_key w))) h5) (z : jTS h5 B sz T (t + t')) (hn : V 0 0 < 6) (hl : lo ≤ hi) (hh : hi ≤ 31) (hw : jT_letters w ∧ w.length ≤ 8) :
    jLS h0 (jFm h5 ρ (V 0 0) lo hi) B sz T ρ (t + t') (jv2 (jv2 (jv2 V 0 0 (V 0 0 + 1)) 1 (V 0 0) lo) 2 (V 0 0) hi) (jw2 W 0 (V 0 0) w) D := by
  obtain ⟨x1, ⟨⟨a1, a2⟩, ⟨b1, b2⟩, ⟨c1, c2⟩, e, f1, f2, f3, f4, f5, f6, f7, i1, i2, i3, i4⟩, x3, ⟨v1, v2, v3, v4, v5, v6, v7, v8, v9, v10, v11, v12, v13, v14, v15, v16, v17, v18, v19, v20, v21⟩, x5, x6⟩ := x
  have f7' : ∀ q, q ≠ 0 → jh_I (jFm h5 ρ (V 0 0) lo hi) 7 ρ q = jh_I h 7 ρ q := fun q hq => by
    unfold jFm
    rw [jg_II, jg_un hq, g.1 7 ρ (by decide) (by decide)]
    rfl
  have fa : ∀ a b, a ≠ 9 → a ≠ 6 → a ≠ 7 → a ≠ 21 → a ≠ 22 → jh_I (jFm h5 ρ (V 0 0) lo hi) a b = jh_I h a b := fun a b z1 z2 z3 z4 z5 => (if_neg (fun y => z3 y.1)).trans ((if_neg (fun y => z5 y.1)).trans ((if_neg (fun y => z4 y.1)).trans (g.1 a b z1 z2)))
  have e21 : jh_I (jFm h5 ρ (V 0 0) lo hi) 21 ρ = upd (jh_I h 21 ρ) (V 0 0) (nI lo) := by
    rw [← show jh_I h5 21 ρ = jh_I h 21 ρ from g.1 21 ρ (by decide) (by decide)]
    exact if_pos ⟨rfl, rfl⟩
  have e22 : jh_I (jFm h5 ρ (V 0 0) lo hi) 22 ρ = upd (jh_I h 22 ρ) (V 0 0) (nI hi) := by
    rw [← show jh_I h5 22 ρ = jh_I h 22 ρ from g.1 22 ρ (by decide) (by decide)]
    exact if_pos ⟨rfl, rfl⟩
  have eL : ∀ a, a ≠ 9 → a ≠ 28 → jh_L (jFm h5 ρ (V 0 0) lo hi) a 0 = jh_L h a 0 := fun a z1 z2 => (g.2.1 a 0 z1).trans (if_neg (fun y => z2 y.1))
  have e28 : jh_L (jFm h5 ρ (V 0 0) lo hi) 28 0 = vp_updL (jh_L h 28 0) (V 0 0) (jy_key w) := g.2.1 28 0 (by decide)
  refine ⟨z, ⟨⟨?_, fun j hj => ?_⟩, ⟨(f7' 3 (by decide)).trans b1, fun p hp => ?_⟩, ⟨(f7' 5 (by decide)).trans c1, fun p hp => ?_⟩, fun w hw => ?_, (f7' 7 (by decide)).trans f1, (f7' 8 (by decide)).trans f2, (f7' 9 (by decide)).trans f3, (f7' 10 (by decide)).trans f4, (f7' 11 (by decide)).trans f5, (f7' 12 (by decide)).trans f6, (f7' 15 (by decide)).trans f7, (g.2.2.2.2 5 (by decide)).trans i1, ?_, fun q hq => ?_, ?_⟩,
    jCF_I (jCF_I (jCF_I (jCF_f (jCF_L x3 (by decide)) g) (by decide)) (by decide)) (by decide), ⟨?_, v2, v3, v4, fun j hj => ?_, v6, fun d hd => ?_, v8, v9, v10, v11, v12, v13, v14, v15, v16, v17, v18, fun j hj => ?_, v20, v21⟩, ?_, x6⟩
  · unfold jFm
    rw [jg_II, jg_us]
    rfl
  · have hj1 : j < V 0 0 + 1 := hj
    rw [e21, e22, e28]
    by_cases e : j = V 0 0
    · subst e
      rw [jg_us, jg_us, jg_Lus, jv2_s, jv2_n (fun y => by omega), jv2_s, jw2_s]
      exact ⟨rfl, rfl, rfl⟩
    · rw [jg_un (by omega), jg_un (by omega), jg_Lun (by omega), jv2_n (fun y => by omega), jv2_n (fun y => by omega), jv2_n (fun y => by omega), jv2_n (fun y => by omega), jv2_n (fun y => by omega), jv2_n (fun y => by omega), jw2_n (fun y => by omega)]
      exact a2 j (by omega)
  · rw [fa 23 ρ (by decide) (by decide) (by decide) (by decide) (by decide), eL 29 (by decide) (by decide)]
    exact b2 p hp
  · unfold jCd
    rw [fa 2 _ (by decide) (by decide) (by decide) (by decide) (by decide), eL 30 (by decide) (by decide)]
    exact c2 p hp
  · rw [fa 26 ρ (by decide) (by decide) (by decide) (by decide) (by decide), fa 27 ρ (by decide) (by decide) (by decide) (by decide) (by decide)]
    exact e w hw
  · rw [f7' 13 (by decide)]
    exact i2
  · rw [fa 25 ρ (by decide) (by decide) (by decide) (by decide) (by decide)]
    exact i3 q hq
  · rw [show jh_M (jFm h5 ρ (V 0 0) lo hi) 6 0 = jh_M h 6 0 from congrFun (congrFun (congrArg (·.1) g.2.2.1) 6) 0]
    exact i4
  · show V 0 0 + 1 ≤ 6
    omega
  · have hj1 : j < V 0 0 + 1 := hj
    by_cases e : j = V 0 0
    · subst e
      rw [jv2_s, jv2_n (fun y => by omega), jv2_s]
      exact ⟨hl, hh⟩
    · rw [jv2_n (fun y => by omega), jv2_n (fun y => by omega), jv2_n (fun y => by omega), jv2_n (fun y => by omega), jv2_n (fun y => by omega), jv2_n (fun y => by omega)]
      exact v5 j (by omega)
  · obtain ⟨d1, d2, d3, d4, d5, d6, d7, d8, d9⟩ := v7 d hd
    exact ⟨d1, d2, d3, d4, d5, d6, d7, Nat.lt_succ_of_lt d8, d9⟩
  · have hj1 : j < V 0 0 + 1 := hj
    by_cases e : j = V 0 0
    · subst e
      rw [jw2_s]
      exact hw
    · rw [jw2_n (fun y => by omega)]
      exact v19 j (by omega)
  · show 4 * V 0 4 ≤ 8 * V 0 3 + jT_p B sz (t + t')
    have := jT_p_mn (B := B) (sz := sz) (t := t) t'
    omega
theorem jCD_28 {h : jx_H} {ρ : Nat} {w : Int64} {V : Nat → Nat → Nat} {W : Nat → Nat → List Nat} {D : Nat → Int32} (x : jCD h ρ V W D) : jCD (ju_L h 28 0 (vp_updL (jh_L h 28 0) (V 0 0) w)) ρ V W D := by
  obtain ⟨⟨a1, a2⟩, x⟩ := x
  exact ⟨⟨a1, fun j hj => ⟨(a2 j hj).1, (a2 j hj).2.1, (show vp_updL (jh_L h 28 0) (V 0 0) w j = _ from jg_Lun (by omega)).trans (a2 j hj).2.2⟩⟩, x⟩
set_option maxHeartbeats 800000 in
set_option maxRecDepth 100000 in
theorem ev_month {d : Nat} {h : jx_H} {Q : Option jx_V → jx_H → Prop} {h0 : jx_H} {B : Nat → Int32} {sz T β ρ t : Nat} {V : Nat → Nat → Nat} {W : Nat → Nat → List Nat} {D : Nat → Int32} (x : jLS h0 h B sz T ρ t V W D) (hβ : β < 2) (hn : V 0 0 < 6) (k : ∀ r h', jLO jm_MD_readMonth 8 h0 B sz T β ρ t V W D r h' → Q r h')  : jx_Ev jm_Rdr_readMonth (d + 8) 0 0 false 0 [jv_r 6 0] h Q := by
  show jx_W (jm_Rdr_readMonth, d + 8, 0, 0, false, 0, _) Q 0 0 0 [some (jv_r 6 0), none] [] _
  obtain ⟨xz, xD, xF, xV, x5, x6⟩ := id x
  have hW : jnW (W 0) (V 0 0) := xV.2.2.2.2.2.2.2.2.2.2.2.2.2.2.2.2.2.2.1
  have hr : ∀ j, j < V 0 0 → jh_L h 28 0 j = jy_key (W 0 j) := fun j hj => (xD.1.2 j hj).2.2
  have hρ : jh_M h 6 0 4 = ρ + 1 := xD.2.2.2.2.2.2.2.2.2.2.2.2.2.2
  refine jr_aload rfl rfl ?_
  refine jr_aload rfl rfl ?_
  refine jr_getR rfl rfl rfl rfl (Or.inl rfl) ?_
  refine jr_aload rfl rfl ?_
  refine jr_getM rfl rfl rfl rfl hρ ?_
  refine jr_getI rfl rfl ?_
  rw [xD.1.1]
  refine jr_cv2 (mc' := 0) (ms' := 0) rfl jm_Rdr_wantNewName_n jm_Rdr_wantNewName_f rfl rfl rfl rfl rfl rfl rfl (Nat.zero_le _) (Nat.zero_le _) ?_
  refine ev_newN_m xz hW hr hn (fun k0 n0 h1 g1 z1 => ?_) (fun k0 h9 r1 v1 v2 => ?_) (fun k0 n0 h9 r1 v1 v2 => ?_)
  · have dL : jCD h1 ρ V W D := jCD_f (jCD_28 xD) g1
    refine jr_if_eq rfl (fun z => absurd z (by decide)) (fun _ => ?_)
    refine jr_aload rfl rfl ?_
    refine jr_ic rfl ?_
    refine jr_cv1 (mc' := 0) (ms' := 0) rfl jm_Rdr_want_n jm_Rdr_want_f rfl rfl rfl rfl rfl rfl rfl (Nat.zero_le _) (Nat.zero_le _) ?_
    refine ev_want (w := 107) (t := t + 1) (show jTS h1 B sz T (t + 1) from z1) (by decide) (by decide) (fun k1 h2 g2 z2 => ?_) (fun k1 h9 r1 v1 v2 => ?_)
    · refine jr_if_eq rfl (fun z => absurd z (by decide)) (fun _ => ?_)
      refine jr_aload rfl rfl ?_
      refine jr_ic rfl ?_
      refine jr_ic rfl ?_
      refine jr_cv2 (mc' := 0) (ms' := 0) rfl jm_Rdr_wantNumber_n jm_Rdr_wantNumber_f rfl rfl rfl rfl rfl rfl rfl (Nat.zero_le _) (Nat.zero_le _) ?_
      refine ev_wantN (lo := 0) (hi := 31) (t := t + 2) (show jTS h2 B sz T (t + 2) from z2) (by decide) (by decide) (fun k2 r2 r2b h3 g3 z3 w3 => ?_) (fun k2 h9 r1 v1 v2 => ?_) (fun k2 r2 h9 r1 v1 v2 => ?_)
      · refine jr_if_ne rfl (fun _ => ?_) (fun z => absurd z (by decide))
        refine jr_aload rfl rfl ?_
        refine jr_getI rfl rfl ?_
        rw [show jh_I h3 6 0 7 = nI (jT_v B sz (jT_p B sz (t + 2))) from w3]
        refine jr_ist1 rfl rfl ?_
        refine jr_aload rfl rfl ?_
        refine jr_ic rfl ?_
        refine jr_cv1 (mc' := 0) (ms' := 0) rfl jm_Rdr_want_n jm_Rdr_want_f rfl rfl rfl rfl rfl rfl rfl (Nat.zero_le _) (Nat.zero_le _) ?_
        refine ev_want (w := 108) (t := t + 3) (show jTS h3 B sz T (t + 3) from z3) (by decide) (by decide) (fun k3 h4 g4 z4 => ?_) (fun k3 h9 r1 v1 v2 => ?_)
        · refine jr_if_eq rfl (fun z => absurd z (by decide)) (fun _ => ?_)
          refine jr_aload rfl rfl ?_
          refine jr_iload rfl rfl ?_
          refine jr_ic rfl ?_
          refine jr_cv2 (mc' := 0) (ms' := 0) rfl jm_Rdr_wantNumber_n jm_Rdr_wantNumber_f rfl rfl rfl rfl rfl rfl rfl (Nat.zero_le _) (Nat.zero_le _) ?_
          refine ev_wantN (lo := jT_v B sz (jT_p B sz (t + 2))) (hi := 31) (t := t + 4) (show jTS h4 B sz T (t + 4) from z4) (by omega) (by omega) (fun k4 r4 r4b h5 g5 z5 w5 => ?_) (fun k4 h9 r1 v1 v2 => ?_) (fun k4 r4 h9 r1 v1 v2 => ?_)
          · refine jr_if_ne rfl (fun _ => ?_) (fun z => absurd z (by decide))
            have d5 := jCD_f (jCD_f (jCD_f (jCD_f dL g2) g3) g4) g5
            have n5 : jh_I h5 7 ρ 0 = nI (V 0 0) := d5.1.1
            refine jr_aload rfl rfl ?_
            refine jr_getM rfl rfl rfl rfl (show jh_M h5 6 0 4 = ρ + 1 from d5.2.2.2.2.2.2.2.2.2.2.2.2.2.2) ?_
            refine jr_iload rfl rfl ?_
            refine jr_aload rfl rfl ?_
            refine jr_getI rfl rfl ?_
            rw [show jh_I h5 6 0 7 = nI (jT_v B sz (jT_p B sz (t + 4))) from w5]
            refine jr_cv2 (mc' := 0) (ms' := 0) rfl jm_Rep_addMonth_n jm_Rep_addMonth_f rfl rfl rfl rfl rfl rfl rfl (Nat.zero_le _) (Nat.zero_le _) ?_
            show jx_W (jm_Rep_addMonth, _, _, _, _, _, _) _ 0 0 0 [some _, some _, some _] [] _
            refine jr_aload rfl rfl ?_
            refine jr_getI rfl rfl ?_
            refine jr_ic rfl ?_
            refine jr_icmp_ge rfl (fun z => absurd z (by rw [n5]; exact nI_ge (a := V 0 0) (b := 6) hn (by decide))) (fun _ => ?_)
            refine jr_aload rfl rfl ?_
            refine jr_getR rfl rfl rfl rfl (Or.inl rfl) ?_
            refine jr_aload rfl rfl ?_
            refine jr_getI rfl rfl ?_
            refine jr_iload rfl rfl ?_
            refine jr_iast (len := 6) rfl rfl n5 (by omega) ?_
            refine jr_aload rfl rfl ?_
            refine jr_getR rfl rfl rfl rfl (Or.inl rfl) ?_
            refine jr_aload rfl rfl ?_
            refine jr_getI rfl rfl ?_
            refine jr_iload rfl rfl ?_
            refine jr_iast (len := 6) rfl rfl n5 (by omega) ?_
            refine jr_aload rfl rfl ?_
            refine jr_dup_r rfl ?_
            refine jr_getI rfl rfl ?_
            refine jr_ic rfl ?_
            refine jr_iadd rfl ?_
            rw [show jh_I (ju_I (ju_I h5 21 ρ (upd (jh_I h5 21 ρ) (V 0 0) (nI (jT_v B sz (jT_p B sz (t + 2)))))) 22 ρ (upd (jh_I (ju_I h5 21 ρ (upd (jh_I h5 21 ρ) (V 0 0) (nI (jT_v B sz (jT_p B sz (t + 2)))))) 22 ρ) (V 0 0) (nI (jT_v B sz (jT_p B sz (t + 4)))))) 7 ρ 0 = nI (V 0 0) from n5, jn_S]
            refine jr_putI rfl rfl ?_
            refine jr_vret rfl rfl (Nat.zero_le _) (Nat.zero_le _) ?_
            refine jr_ic rfl ?_
            refine jr_zret rfl rfl rfl (Nat.zero_le _) (Nat.zero_le _) ?_
            exact k _ _ (Or.inl ⟨rfl, t + 5, _, _, D, by show V 0 0 + 1 + V 0 1 + V 0 2 + V 0 5 + V 12 5 + V 0 6 + V 0 7 = _; unfold jsm; omega, jLS_month (lo := jT_v B sz (jT_p B sz (t + 2))) (hi := jT_v B sz (jT_p B sz (t + 4))) x (jCf_t g1 (jCf_t g2 (jCf_t g3 (jCf_t g4 g5)))) (show jTS h5 B sz T (t + 5) from z5) hn r4 r4b (jT_k3 k0), fun d h0 hm Qm x F kq => eM_month_g x F hβ hn hW k0 n0 k1 k2 r2b k3 k4 ⟨r4, r4b⟩ kq⟩)
          · refine jr_if_ne rfl (fun z => absurd (by decide) z) (fun _ => ?_)
            refine jr_ic rfl ?_
            refine jr_zret rfl rfl rfl (Nat.zero_le _) (Nat.zero_le _) ?_
            exact k _ _ (Or.inr ⟨rfl, _, _, jCF_f (jCF_f (jCF_f (jCF_f (jCF_f (jCF_L xF (by decide)) g1) g2) g3) g4) r1, v1, v2, ⟨by first | exact jX_kd_n _ | decide, jT_p_le⟩, fun d h0 hm Qm x F kq => eM_month_b6 x F hβ hn hW k0 n0 k1 k2 r2b k3 k4 kq⟩)
          · refine jr_if_ne rfl (fun z => absurd (by decide) z) (fun _ => ?_)
            refine jr_ic rfl ?_
            refine jr_zret rfl rfl rfl (Nat.zero_le _) (Nat.zero_le _) ?_
            exact k _ _ (Or.inr ⟨rfl, _, _, jCF_f (jCF_f (jCF_f (jCF_f (jCF_f (jCF_L xF (by decide)) g1) g2) g3) g4) r1, v1, v2, ⟨by first | exact jX_kd_n _ | decide, jT_p_le⟩, fun d h0 hm Qm x F kq => eM_month_b7 x F hβ hn hW k0 n0 k1 k2 r2b k3 k4 r4 kq⟩)
        · refine jr_if_eq rfl (fun _ => ?_) (fun z => absurd (by decide) z)
          refine jr_ic rfl ?_
          refine jr_zret rfl rfl rfl (Nat.zero_le _) (Nat.zero_le _) ?_
          exact k _ _ (Or.inr ⟨rfl, _, _, jCF_f (jCF_f (jCF_f (jCF_f (jCF_L xF (by decide)) g1) g2) g3) r1, v1, v2, ⟨by first | exact jX_kd_n _ | decide, jT_p_le⟩, fun d h0 hm Qm x F kq => eM_month_b5 x F hβ hn hW k0 n0 k1 k2 r2b k3 kq⟩)
      · refine jr_if_ne rfl (fun z => absurd (by decide) z) (fun _ => ?_)
        refine jr_ic rfl ?_
        refine jr_zret rfl rfl rfl (Nat.zero_le _) (Nat.zero_le _) ?_
        exact k _ _ (Or.inr ⟨rfl, _, _, jCF_f (jCF_f (jCF_f (jCF_L xF (by decide)) g1) g2) r1, v1, v2, ⟨by first | exact jX_kd_n _ | decide, jT_p_le⟩, fun d h0 hm Qm x F kq => eM_month_b3 x F hβ hn hW k0 n0 k1 k2 kq⟩)
      · refine jr_if_ne rfl (fun z => absurd (by decide) z) (fun _ => ?_)
        refine jr_ic rfl ?_
        refine jr_zret rfl rfl rfl (Nat.zero_le _) (Nat.zero_le _) ?_
        exact k _ _ (Or.inr ⟨rfl, _, _, jCF_f (jCF_f (jCF_f (jCF_L xF (by decide)) g1) g2) r1, v1, v2, ⟨by first | exact jX_kd_n _ | decide, jT_p_le⟩, fun d h0 hm Qm x F kq => eM_month_b4 x F hβ hn hW k0 n0 k1 k2 r2 kq⟩)
    · refine jr_if_eq rfl (fun _ => ?_) (fun z => absurd (by decide) z)
      refine jr_ic rfl ?_
      refine jr_zret rfl rfl rfl (Nat.zero_le _) (Nat.zero_le _) ?_
      exact k _ _ (Or.inr ⟨rfl, _, _, jCF_f (jCF_f (jCF_L xF (by decide)) g1) r1, v1, v2, ⟨by first | exact jX_kd_n _ | decide, jT_p_le⟩, fun d h0 hm Qm x F kq => eM_month_b2 x F hβ hn hW k0 n0 k1 kq⟩)
  · refine jr_if_eq rfl (fun _ => ?_) (fun z => absurd (by decide) z)
    refine jr_ic rfl ?_
    refine jr_zret rfl rfl rfl (Nat.zero_le _) (Nat.zero_le _) ?_
    exact k _ _ (Or.inr ⟨rfl, _, _, jCF_f xF r1, v1, v2, ⟨by first | exact jX_kd_n _ | decide, jT_p_le⟩, fun d h0 hm Qm x F kq => eM_month_b0 x F hβ hn hW k0 kq⟩)
  · refine jr_if_eq rfl (fun _ => ?_) (fun z => absurd (by decide) z)
    refine jr_ic rfl ?_
    refine jr_zret rfl rfl rfl (Nat.zero_le _) (Nat.zero_le _) ?_
    exact k _ _ (Or.inr ⟨rfl, _, _, jCF_f xF r1, v1, v2, ⟨by first | exact jX_kd_n _ | decide, jT_p_le⟩, fun d h0 hm Qm x F kq => eM_month_b1 x F hβ hn hW k0 n0 kq⟩)

