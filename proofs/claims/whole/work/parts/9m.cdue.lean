theorem jCe_M {i : Nat} {h h' : jx_H} (g : jCe i h h') : jh_M h' 6 0 4 = jh_M h 6 0 4 := congrFun (congrFun (congrFun (congrArg (·.1) g.2.2.1) 6) 0) 4
theorem jDq {i ρ : Nat} {G : Nat → Int64} {h h' : jx_H} {V : Nat → Nat → Nat} {W : Nat → Nat → List Nat} {D : Nat → Int32} (x : jCD h ρ V W D) (g : jCe i (ju_L h 30 0 G) h') : jh_M h' 6 0 4 = ρ + 1 ∧ jh_I h' 7 ρ 0 = nI (V 0 0) ∧ jh_I h' 7 ρ 3 = nI (V 0 1) ∧ jh_I h' 7 ρ 5 = nI (V 0 2) ∧ (∀ j, j < V 0 0 → jh_L h' 28 0 j = jy_key (W 0 j)) ∧ (∀ j, j < V 0 1 → jh_L h' 29 0 j = jy_key (W 1 j)) := by
  obtain ⟨⟨a1, a2⟩, ⟨b1, b2⟩, ⟨c1, c2⟩, e, f1, f2, f3, f4, f5, f6, f7, i1, i2, i3, i4⟩ := x
  have g7 : jh_I h' 7 ρ = jh_I h 7 ρ := g.1 7 ρ (by decide) (by decide) (fun y => absurd y.1 (by decide))
  exact ⟨(jCe_M g).trans i4, (congrFun g7 0).trans a1, (congrFun g7 3).trans b1, (congrFun g7 5).trans c1, fun j hj => (congrFun (g.2.1 28 0 (by decide)) j).trans (a2 j hj).2.2, fun j hj => (congrFun (g.2.1 29 0 (by decide)) j).trans (b2 j hj).2⟩
theorem jLS_due {h0 h h5 : jx_H} {B : Nat → Int32} {sz T ρ t t' a b p y m l : Nat} {w : List Nat} {V : Nat → Nat → Nat} {W : Nat → Nat → List Nat} {D : Nat → Int32} (x : jLS h0 h B sz T ρ t V W D) (g : jCe (12 * ρ + V 0 2) (ju_L h 30 0 (vp_updL (jh_L h 30 0) (V 0 2) (jy_key w))) h5) (z : jTS h5 B sz T (t + t')) (hn : V 0 2 < 12) (hw : jT_letters w ∧ w.length ≤ 8)
    (r0 : jh_I h5 2 (12 * ρ + V 0 2) 0 = nI a) (r1 : jh_I h5 2 (12 * ρ + V 0 2) 1 = nI b) (r2 : jh_I h5 2 (12 * ρ + V 0 2) 2 = nI p) (r3 : jh_I h5 2 (12 * ρ + V 0 2) 3 = nI y) (r4 : jh_I h5 2 (12 * ρ + V 0 2) 4 = nI m) (r5 : jh_I h5 2 (12 * ρ + V 0 2) 5 = nI l) (hv : a < V 0 1 ∧ b < V 0 1 ∧ a ≠ b ∧ 1 ≤ p ∧ p ≤ 99 ∧ 1 ≤ y ∧ y ≤ 31 ∧ m < V 0 0 ∧ l ≤ 1) :
    jLS h0 (ju_I h5 7 ρ (upd (jh_I h5 7 ρ) 5 (nI (V 0 2 + 1)))) B sz T ρ (t + t') (jVd V a b p y m l) (jw2 W 2 (V 0 2) w) D := by
  obtain ⟨x1, ⟨⟨a1, a2⟩, ⟨b1, b2⟩, ⟨c1, c2⟩, e, f1, f2, f3, f4, f5, f6, f7, i1, i2, i3, i4⟩, x3, ⟨v1, v2, v3, v4, v5, v6, v7, v8, v9, v10, v11, v12, v13, v14, v15, v16, v17, v18, v19, v20, v21⟩, x5, x6⟩ := x
  have h7 : jh_I (ju_I h5 7 ρ (upd (jh_I h5 7 ρ) 5 (nI (V 0 2 + 1)))) 7 ρ = upd (jh_I h 7 ρ) 5 (nI (V 0 2 + 1)) := by
    rw [jg_II, g.1 7 ρ (by decide) (by decide) (fun y => absurd y.1 (by decide))]
    rfl
  have f7' : ∀ q, q ≠ 5 → jh_I (ju_I h5 7 ρ (upd (jh_I h5 7 ρ) 5 (nI (V 0 2 + 1)))) 7 ρ q = jh_I h 7 ρ q := fun q hq => by
    rw [h7, jg_un hq]
  have fa : ∀ a b, a ≠ 9 → a ≠ 6 → a ≠ 7 → a ≠ 2 → jh_I (ju_I h5 7 ρ (upd (jh_I h5 7 ρ) 5 (nI (V 0 2 + 1)))) a b = jh_I h a b := fun a b z1 z2 z3 z4 => (if_neg (fun y => z3 y.1)).trans (g.1 a b z1 z2 (fun y => z4 y.1))
  have eL : ∀ a, a ≠ 9 → a ≠ 30 → jh_L (ju_I h5 7 ρ (upd (jh_I h5 7 ρ) 5 (nI (V 0 2 + 1)))) a 0 = jh_L h a 0 := fun a z1 z2 => (g.2.1 a 0 z1).trans (if_neg (fun y => z2 y.1))
  have e30 : jh_L (ju_I h5 7 ρ (upd (jh_I h5 7 ρ) 5 (nI (V 0 2 + 1)))) 30 0 = vp_updL (jh_L h 30 0) (V 0 2) (jy_key w) := g.2.1 30 0 (by decide)
  obtain ⟨q1, q2, q3, q4, q5, q6⟩ := jVd_s V a b p y m l
  refine ⟨z, ⟨⟨(f7' 0 (by decide)).trans a1, fun j hj => ?_⟩, ⟨(f7' 3 (by decide)).trans b1, fun q hq => ?_⟩, ⟨?_, fun q hq => ?_⟩, fun w hw => ?_, (f7' 7 (by decide)).trans f1, (f7' 8 (by decide)).trans f2, (f7' 9 (by decide)).trans f3, (f7' 10 (by decide)).trans f4, (f7' 11 (by decide)).trans f5, (f7' 12 (by decide)).trans f6, (f7' 15 (by decide)).trans f7, (g.2.2.2.2 5 (by decide)).trans i1, ?_, fun q hq => ?_, ?_⟩,
    jCF_I (jCF_e (jCF_L x3 (by decide)) (by omega) (by omega) g) (by decide), ⟨v1, v2, ?_, v4, v5, v6, fun d hd => ?_, v8, v9, v10, v11, v12, v13, v14, v15, v16, v17, v18, v19, v20, fun j hj => ?_⟩, ?_, x6⟩
  · rw [fa 21 ρ (by decide) (by decide) (by decide) (by decide), fa 22 ρ (by decide) (by decide) (by decide) (by decide), eL 28 (by decide) (by decide)]
    exact a2 j hj
  · rw [fa 23 ρ (by decide) (by decide) (by decide) (by decide), eL 29 (by decide) (by decide)]
    exact b2 q hq
  · rw [h7, jg_us]
    rfl
  · have hq1 : q < V 0 2 + 1 := hq
    unfold jCd
    rw [e30]
    by_cases e : q = V 0 2
    · subst e
      rw [jg_Lus, jw2_s, q1, q2, q3, q4, q5, q6]
      exact ⟨⟨r0, r1, r2, r3, r4, r5⟩, rfl⟩
    · rw [jg_Lun e, jw2_n (fun y => e y.2), jVd_n (by decide) e, jVd_n (by decide) e, jVd_n (by decide) e, jVd_n (by decide) e, jVd_n (by decide) e, jVd_n (by decide) e]
      have ee : jh_I (ju_I h5 7 ρ (upd (jh_I h5 7 ρ) 5 (nI (V 0 2 + 1)))) 2 (12 * ρ + q) = jh_I h 2 (12 * ρ + q) := g.1 2 (12 * ρ + q) (by decide) (by decide) (fun y => by omega)
      rw [ee]
      exact c2 q (by omega)
  · rw [fa 26 ρ (by decide) (by decide) (by decide) (by decide), fa 27 ρ (by decide) (by decide) (by decide) (by decide)]
    exact e w hw
  · rw [f7' 13 (by decide)]
    exact i2
  · rw [fa 25 ρ (by decide) (by decide) (by decide) (by decide)]
    exact i3 q hq
  · exact (jCe_M g).trans i4
  · show V 0 2 + 1 ≤ 12
    omega
  · have hd1 : d < V 0 2 + 1 := hd
    by_cases e : d = V 0 2
    · subst e
      rw [q1, q2, q3, q4, q5, q6]
      exact hv
    · rw [jVd_n (by decide) e, jVd_n (by decide) e, jVd_n (by decide) e, jVd_n (by decide) e, jVd_n (by decide) e, jVd_n (by decide) e]
      exact v7 d (by omega)
  · have hj1 : j < V 0 2 + 1 := hj
    by_cases e : j = V 0 2
    · subst e
      rw [jw2_s]
      exact hw
    · rw [jw2_n (fun y => e y.2)]
      exact v21 j (by omega)
  · show 4 * V 0 4 ≤ 8 * V 0 3 + jT_p B sz (t + t')
    have := jT_p_mn (B := B) (sz := sz) (t := t) t'
    omega
set_option maxHeartbeats 800000 in
set_option maxRecDepth 100000 in
theorem ev_due {d : Nat} {h : jx_H} {Q : Option jx_V → jx_H → Prop} {h0 : jx_H} {B : Nat → Int32} {sz T β ρ t : Nat} {V : Nat → Nat → Nat} {W : Nat → Nat → List Nat} {D : Nat → Int32} (x : jLS h0 h B sz T ρ t V W D) (hβ : β < 2) (hn : V 0 2 < 12) (k : ∀ r h', jLO jm_MD_readDue 8 h0 B sz T β ρ t V W D r h' → Q r h')  : jx_Ev jm_Rdr_readDue (d + 8) 0 0 false 0 [jv_r 6 0] h Q := by
  show jx_W (jm_Rdr_readDue, d + 8, 0, 0, false, 0, _) Q 0 0 0 [some (jv_r 6 0), none] [] _
  obtain ⟨xz, xD, xF, xV, x5, x6⟩ := id x
  have hW : jnW (W 2) (V 0 2) := xV.2.2.2.2.2.2.2.2.2.2.2.2.2.2.2.2.2.2.2.2
  have hWp : jnW (W 1) (V 0 1) := xV.2.2.2.2.2.2.2.2.2.2.2.2.2.2.2.2.2.2.2.1
  have hWm : jnW (W 0) (V 0 0) := xV.2.2.2.2.2.2.2.2.2.2.2.2.2.2.2.2.2.2.1
  have hp5 : V 0 1 ≤ 5 := xV.2.1
  have hm6 : V 0 0 ≤ 6 := xV.1
  have hr : ∀ j, j < V 0 2 → jh_L h 30 0 j = jy_key (W 2 j) := fun j hj => (xD.2.2.1.2 j hj).2
  have hρ : jh_M h 6 0 4 = ρ + 1 := xD.2.2.2.2.2.2.2.2.2.2.2.2.2.2
  refine jr_aload rfl rfl ?_
  refine jr_aload rfl rfl ?_
  refine jr_getR rfl rfl rfl rfl (Or.inl rfl) ?_
  refine jr_aload rfl rfl ?_
  refine jr_getM rfl rfl rfl rfl hρ ?_
  refine jr_getI rfl rfl ?_
  rw [xD.2.2.1.1]
  refine jr_cv2 (mc' := 0) (ms' := 0) rfl jm_Rdr_wantNewName_n jm_Rdr_wantNewName_f rfl rfl rfl rfl rfl rfl rfl (Nat.zero_le _) (Nat.zero_le _) ?_
  refine ev_newN_d xz hW hr hn (fun k0 n0 h1 g1 z1 => ?_) (fun k0 h9 r1 v1 v2 => ?_) (fun k0 n0 h9 r1 v1 v2 => ?_)
  · have E1 : jCe (12 * ρ + V 0 2) (ju_L h 30 0 (vp_updL (jh_L h 30 0) (V 0 2) (jy_key (jT_wd B sz (jT_p B sz t))))) h1 := jCe_f (jCe_r (12 * ρ + V 0 2) (ju_L h 30 0 (vp_updL (jh_L h 30 0) (V 0 2) (jy_key (jT_wd B sz (jT_p B sz t)))))) g1
    obtain ⟨d1, nm1, np1, nd1, qm1, qp1⟩ := jDq xD E1
    refine jr_if_ne rfl (fun _ => ?_) (fun z => absurd z (by decide))
    refine jr_aload rfl rfl ?_
    refine jr_getM rfl rfl rfl rfl d1 ?_
    refine jr_aload rfl rfl ?_
    refine jr_getM rfl rfl rfl rfl d1 ?_
    refine jr_getI rfl rfl ?_
    rw [nd1]
    refine jr_cv1 (mc' := 0) (ms' := 0) rfl jm_Rep_dueAt_n jm_Rep_dueAt_f rfl rfl rfl rfl rfl rfl rfl (Nat.zero_le _) (Nat.zero_le _) ?_
    refine ev_Rep_dueAt hn ?_
    refine jr_ast1 rfl rfl ?_
    refine jr_aload rfl rfl ?_
    refine jr_ic rfl ?_
    refine jr_cv1 (mc' := 0) (ms' := 0) rfl jm_Rdr_want_n jm_Rdr_want_f rfl rfl rfl rfl rfl rfl rfl (Nat.zero_le _) (Nat.zero_le _) ?_
    refine ev_want (w := 113) (t := t + 1) (show jTS h1 B sz T (t + 1) from z1) (by decide) (by decide) (fun k1 h2 g2 z2 => ?_) (fun k1 h9 r1 v1 v2 => ?_)
    · have E2 : jCe (12 * ρ + V 0 2) (ju_L h 30 0 (vp_updL (jh_L h 30 0) (V 0 2) (jy_key (jT_wd B sz (jT_p B sz t))))) h2 := jCe_f E1 g2
      obtain ⟨d2, nm2, np2, nd2, qm2, qp2⟩ := jDq xD E2
      refine jr_if_eq rfl (fun z => absurd z (by decide)) (fun _ => ?_)
      refine jr_aload rfl rfl ?_
      refine jr_aload rfl rfl ?_
      refine jr_getR rfl rfl rfl rfl (Or.inl rfl) ?_
      refine jr_aload rfl rfl ?_
      refine jr_getM rfl rfl rfl rfl d2 ?_
      refine jr_getI rfl rfl ?_
      refine jr_ic rfl ?_
      rw [np2]
      refine jr_cv3 (mc' := 0) (ms' := 0) rfl jm_Rdr_wantKnownName_n jm_Rdr_wantKnownName_f rfl rfl rfl rfl rfl rfl rfl (Nat.zero_le _) (Nat.zero_le _) ?_
      refine ev_oldN_p (t := t + 2) (show jTS h2 B sz T (t + 2) from z2) hWp qp2 (by omega) (fun k2 a j2 h3 g3 z3 w3 => ?_) (fun k2 h9 r1 v1 v2 => ?_) (fun k2 j2 h9 r1 v1 v2 => ?_)
      · have E3 : jCe (12 * ρ + V 0 2) (ju_L h 30 0 (vp_updL (jh_L h 30 0) (V 0 2) (jy_key (jT_wd B sz (jT_p B sz t))))) h3 := jCe_f E2 g3
        obtain ⟨d3, nm3, np3, nd3, qm3, qp3⟩ := jDq xD E3
        have hj2 := (jnF_lt _ _ _ j2).2.1
        have E33 : jCe (12 * ρ + V 0 2) (ju_L h 30 0 (vp_updL (jh_L h 30 0) (V 0 2) (jy_key (jT_wd B sz (jT_p B sz t))))) (ju_I h3 2 (12 * ρ + V 0 2) (upd (jh_I h3 2 (12 * ρ + V 0 2)) 0 (nI a))) := jCe_s E3
        refine jr_if_ne rfl (fun _ => ?_) (fun z => absurd z (by decide))
        refine jr_aload rfl rfl ?_
        refine jr_aload rfl rfl ?_
        refine jr_getI rfl rfl ?_
        rw [w3]
        refine jr_putI rfl rfl ?_
        refine jr_aload rfl rfl ?_
        refine jr_ic rfl ?_
        refine jr_cv1 (mc' := 0) (ms' := 0) rfl jm_Rdr_want_n jm_Rdr_want_f rfl rfl rfl rfl rfl rfl rfl (Nat.zero_le _) (Nat.zero_le _) ?_
        refine ev_want (w := 108) (t := t + 3) (h := (ju_I h3 2 (12 * ρ + V 0 2) (upd (jh_I h3 2 (12 * ρ + V 0 2)) 0 (nI a)))) (show jTS h3 B sz T (t + 3) from z3) (by decide) (by decide) (fun k3 h4 g4 z4 => ?_) (fun k3 h9 r1 v1 v2 => ?_)
        · have E4 : jCe (12 * ρ + V 0 2) (ju_L h 30 0 (vp_updL (jh_L h 30 0) (V 0 2) (jy_key (jT_wd B sz (jT_p B sz t))))) h4 := jCe_f E33 g4
          obtain ⟨d4, nm4, np4, nd4, qm4, qp4⟩ := jDq xD E4
          have R4 : jh_I h4 2 (12 * ρ + V 0 2) = upd (jh_I h 2 (12 * ρ + V 0 2)) 0 (nI a) := (g4.1 2 _ (by decide) (by decide)).trans (by rw [jg_II, g3.1 2 _ (by decide) (by decide), g2.1 2 _ (by decide) (by decide), g1.1 2 _ (by decide) (by decide)]; rfl)
          have e4 : jh_I h4 2 (12 * ρ + V 0 2) 0 = nI a := by rw [R4]; exact jg_us _ _ _
          refine jr_if_eq rfl (fun z => absurd z (by decide)) (fun _ => ?_)
          refine jr_aload rfl rfl ?_
          refine jr_aload rfl rfl ?_
          refine jr_getR rfl rfl rfl rfl (Or.inl rfl) ?_
          refine jr_aload rfl rfl ?_
          refine jr_getM rfl rfl rfl rfl d4 ?_
          refine jr_getI rfl rfl ?_
          refine jr_aload rfl rfl ?_
          refine jr_getI rfl rfl ?_
          rw [np4, e4]
          refine jr_cv3 (mc' := 0) (ms' := 0) rfl jm_Rdr_wantKnownName_n jm_Rdr_wantKnownName_f rfl rfl rfl rfl rfl rfl rfl (Nat.zero_le _) (Nat.zero_le _) ?_
          refine ev_oldN2_p (x := a) (t := t + 4) (show jTS h4 B sz T (t + 4) from z4) hWp qp4 (by omega) (by omega) (fun k4 b j4 i4 h5 g5 z5 w5 => ?_) (fun k4 j4 h9 r1 v1 v2 => ?_) (fun k4 h9 r1 v1 v2 => ?_) (fun k4 j4 h9 r1 v1 v2 => ?_)
          · have E5 : jCe (12 * ρ + V 0 2) (ju_L h 30 0 (vp_updL (jh_L h 30 0) (V 0 2) (jy_key (jT_wd B sz (jT_p B sz t))))) h5 := jCe_f E4 g5
            obtain ⟨d5, nm5, np5, nd5, qm5, qp5⟩ := jDq xD E5
            have hj4 := (jnF_lt _ _ _ j4).2.1
            have E55 : jCe (12 * ρ + V 0 2) (ju_L h 30 0 (vp_updL (jh_L h 30 0) (V 0 2) (jy_key (jT_wd B sz (jT_p B sz t))))) (ju_I h5 2 (12 * ρ + V 0 2) (upd (jh_I h5 2 (12 * ρ + V 0 2)) 1 (nI b))) := jCe_s E5
            refine jr_if_ne rfl (fun _ => ?_) (fun z => absurd z (by decide))
            refine jr_aload rfl rfl ?_
            refine jr_aload rfl rfl ?_
            refine jr_getI rfl rfl ?_
            rw [w5]
            refine jr_putI rfl rfl ?_
            refine jr_aload rfl rfl ?_
            refine jr_ic rfl ?_
            refine jr_cv1 (mc' := 0) (ms' := 0) rfl jm_Rdr_want_n jm_Rdr_want_f rfl rfl rfl rfl rfl rfl rfl (Nat.zero_le _) (Nat.zero_le _) ?_
            refine ev_want (w := 114) (t := t + 5) (h := (ju_I h5 2 (12 * ρ + V 0 2) (upd (jh_I h5 2 (12 * ρ + V 0 2)) 1 (nI b)))) (show jTS h5 B sz T (t + 5) from z5) (by decide) (by decide) (fun k5 h6 g6 z6 => ?_) (fun k5 h9 r1 v1 v2 => ?_)
            · have E6 : jCe (12 * ρ + V 0 2) (ju_L h 30 0 (vp_updL (jh_L h 30 0) (V 0 2) (jy_key (jT_wd B sz (jT_p B sz t))))) h6 := jCe_f E55 g6
              obtain ⟨d6, nm6, np6, nd6, qm6, qp6⟩ := jDq xD E6
              refine jr_if_eq rfl (fun z => absurd z (by decide)) (fun _ => ?_)
              refine jr_aload rfl rfl ?_
              refine jr_ic rfl ?_
              refine jr_ic rfl ?_
              refine jr_cv2 (mc' := 0) (ms' := 0) rfl jm_Rdr_wantNumber_n jm_Rdr_wantNumber_f rfl rfl rfl rfl rfl rfl rfl (Nat.zero_le _) (Nat.zero_le _) ?_
              refine ev_wantN (lo := 1) (hi := 99) (t := t + 6) (show jTS h6 B sz T (t + 6) from z6) (by decide) (by decide) (fun k6 r6a r6b h7 g7 z7 w7 => ?_) (fun k6 h9 r1 v1 v2 => ?_) (fun k6 r6 h9 r1 v1 v2 => ?_)
              · have E7 : jCe (12 * ρ + V 0 2) (ju_L h 30 0 (vp_updL (jh_L h 30 0) (V 0 2) (jy_key (jT_wd B sz (jT_p B sz t))))) h7 := jCe_f E6 g7
                obtain ⟨d7, nm7, np7, nd7, qm7, qp7⟩ := jDq xD E7
                have E77 : jCe (12 * ρ + V 0 2) (ju_L h 30 0 (vp_updL (jh_L h 30 0) (V 0 2) (jy_key (jT_wd B sz (jT_p B sz t))))) (ju_I h7 2 (12 * ρ + V 0 2) (upd (jh_I h7 2 (12 * ρ + V 0 2)) 2 (nI (jT_v B sz (jT_p B sz (t + 6)))))) := jCe_s E7
                have R7 : jh_I (ju_I h7 2 (12 * ρ + V 0 2) (upd (jh_I h7 2 (12 * ρ + V 0 2)) 2 (nI (jT_v B sz (jT_p B sz (t + 6)))))) 2 (12 * ρ + V 0 2) = upd (upd (upd (jh_I h 2 (12 * ρ + V 0 2)) 0 (nI a)) 1 (nI b)) 2 (nI (jT_v B sz (jT_p B sz (t + 6)))) := by
                  rw [jg_II, g7.1 2 _ (by decide) (by decide), g6.1 2 _ (by decide) (by decide), jg_II, g5.1 2 _ (by decide) (by decide), R4]
                refine jr_if_ne rfl (fun _ => ?_) (fun z => absurd z (by decide))
                refine jr_aload rfl rfl ?_
                refine jr_aload rfl rfl ?_
                refine jr_getI rfl rfl ?_
                rw [w7]
                refine jr_putI rfl rfl ?_
                refine jr_aload rfl rfl ?_
                refine jr_aload rfl rfl ?_
                refine jr_cv1 (mc' := 0) (ms' := 0) rfl jm_Rdr_readDueDay_n jm_Rdr_readDueDay_f rfl rfl rfl rfl rfl rfl rfl (Nat.zero_le _) (Nat.zero_le _) ?_
                refine ev_dueDay (t := t + 7) (h := (ju_I h7 2 (12 * ρ + V 0 2) (upd (jh_I h7 2 (12 * ρ + V 0 2)) 2 (nI (jT_v B sz (jT_p B sz (t + 6))))))) (nd := V 0 2) (n0 := V 0 0) (i := (12 * ρ + V 0 2)) (show jTS h7 B sz T (t + 7) from z7) d7 nm7 hWm qm7 hm6 nd7 hn (fun k7 k8 r8a r8b k9 k10 m j10 l t2 kl h9 r9 rr9 z9 => ?_) (fun k7 h9 r9 v1 v2 => ?_) (fun k7 k8 h9 r9 v1 v2 => ?_) (fun k7 k8 r8 h9 r9 v1 v2 => ?_) (fun k7 k8 r8a r8b k9 h9 r9 v1 v2 => ?_) (fun k7 k8 r8a r8b k9 k10 h9 r9 v1 v2 => ?_) (fun k7 k8 r8a r8b k9 k10 j10 h9 r9 v1 v2 => ?_)
                · refine jr_zret rfl rfl rfl (Nat.zero_le _) (Nat.zero_le _) ?_
                  refine k _ _ (Or.inl ⟨rfl, t + (t2 - t), jVd V a b (jT_v B sz (jT_p B sz (t + 6))) (jT_v B sz (jT_p B sz (t + 8))) m l, jw2 W 2 (V 0 2) (jT_wd B sz (jT_p B sz t)), D, by show V 0 0 + V 0 1 + (V 0 2 + 1) + V 0 5 + V 12 5 + V 0 6 + V 0 7 = _; unfold jsm; omega, jLS_due x (jCe_t E77 r9) (by rw [show t + (t2 - t) = t2 by omega]; exact z9) hn (jT_k3 k0) ?_ ?_ ?_ ?_ ?_ ?_ ⟨by omega, by omega, fun y => i4 y.symm, r6a, r6b, r8a, r8b, by have := (jnF_lt _ _ _ j10).2.1; omega, by omega⟩, ?_⟩)
                  · rw [rr9, R7]
                    rw [jg_un (by decide), jg_un (by decide), jg_un (by decide), jg_un (by decide), jg_un (by decide)]
                    exact jg_us _ _ _
                  · rw [rr9, R7]
                    rw [jg_un (by decide), jg_un (by decide), jg_un (by decide), jg_un (by decide)]
                    exact jg_us _ _ _
                  · rw [rr9, R7]
                    rw [jg_un (by decide), jg_un (by decide), jg_un (by decide)]
                    exact jg_us _ _ _
                  · rw [rr9, R7]
                    rw [jg_un (by decide), jg_un (by decide)]
                    exact jg_us _ _ _
                  · rw [rr9, R7]
                    rw [jg_un (by decide)]
                    exact jg_us _ _ _
                  · rw [rr9, R7]
                    exact jg_us _ _ _
                  · intro d h0 hm Qm x F kq
                    rcases kl with ⟨q1, q2, q3⟩ | ⟨q1, q2, q3⟩
                    · subst q2
                      rw [show t + (t2 - t) = t + 12 by omega] at kq
                      exact eM_due_g1 x F hβ hn hp5 hm6 hW hWp hWm k0 n0 k1 k2 j2 k3 k4 j4 i4 k5 k6 ⟨r6a, r6b⟩ k7 k8 ⟨r8a, r8b⟩ k9 k10 j10 q1 kq
                    · subst q2
                      rw [show t + (t2 - t) = t + 11 by omega] at kq
                      exact eM_due_g0 x F hβ hn hp5 hm6 hW hWp hWm k0 n0 k1 k2 j2 k3 k4 j4 i4 k5 k6 ⟨r6a, r6b⟩ k7 k8 ⟨r8a, r8b⟩ k9 k10 j10 q1 kq
                · refine jr_zret rfl rfl rfl (Nat.zero_le _) (Nat.zero_le _) ?_
                  exact k _ _ (Or.inr ⟨rfl, _, _, jCF_e (jCF_L xF (by decide)) (by omega) (by omega) (jCe_t E77 r9), v1, v2, ⟨by first | exact jX_kd_n _ | decide, jT_p_le⟩, fun d h0 hm Qm x F kq => eM_due_b12 x F hβ hn hp5 hm6 hW hWp hWm k0 n0 k1 k2 j2 k3 k4 j4 i4 k5 k6 ⟨r6a, r6b⟩ k7 kq⟩)
                · refine jr_zret rfl rfl rfl (Nat.zero_le _) (Nat.zero_le _) ?_
                  exact k _ _ (Or.inr ⟨rfl, _, _, jCF_e (jCF_L xF (by decide)) (by omega) (by omega) (jCe_t E77 r9), v1, v2, ⟨by first | exact jX_kd_n _ | decide, jT_p_le⟩, fun d h0 hm Qm x F kq => eM_due_b13 x F hβ hn hp5 hm6 hW hWp hWm k0 n0 k1 k2 j2 k3 k4 j4 i4 k5 k6 ⟨r6a, r6b⟩ k7 k8 kq⟩)
                · refine jr_zret rfl rfl rfl (Nat.zero_le _) (Nat.zero_le _) ?_
                  exact k _ _ (Or.inr ⟨rfl, _, _, jCF_e (jCF_L xF (by decide)) (by omega) (by omega) (jCe_t E77 r9), v1, v2, ⟨by first | exact jX_kd_n _ | decide, jT_p_le⟩, fun d h0 hm Qm x F kq => eM_due_b14 x F hβ hn hp5 hm6 hW hWp hWm k0 n0 k1 k2 j2 k3 k4 j4 i4 k5 k6 ⟨r6a, r6b⟩ k7 k8 r8 kq⟩)
                · refine jr_zret rfl rfl rfl (Nat.zero_le _) (Nat.zero_le _) ?_
                  exact k _ _ (Or.inr ⟨rfl, _, _, jCF_e (jCF_L xF (by decide)) (by omega) (by omega) (jCe_t E77 r9), v1, v2, ⟨by first | exact jX_kd_n _ | decide, jT_p_le⟩, fun d h0 hm Qm x F kq => eM_due_b15 x F hβ hn hp5 hm6 hW hWp hWm k0 n0 k1 k2 j2 k3 k4 j4 i4 k5 k6 ⟨r6a, r6b⟩ k7 k8 ⟨r8a, r8b⟩ k9 kq⟩)
                · refine jr_zret rfl rfl rfl (Nat.zero_le _) (Nat.zero_le _) ?_
                  exact k _ _ (Or.inr ⟨rfl, _, _, jCF_e (jCF_L xF (by decide)) (by omega) (by omega) (jCe_t E77 r9), v1, v2, ⟨by first | exact jX_kd_n _ | decide, jT_p_le⟩, fun d h0 hm Qm x F kq => eM_due_b16 x F hβ hn hp5 hm6 hW hWp hWm k0 n0 k1 k2 j2 k3 k4 j4 i4 k5 k6 ⟨r6a, r6b⟩ k7 k8 ⟨r8a, r8b⟩ k9 k10 kq⟩)
                · refine jr_zret rfl rfl rfl (Nat.zero_le _) (Nat.zero_le _) ?_
                  exact k _ _ (Or.inr ⟨rfl, _, _, jCF_e (jCF_L xF (by decide)) (by omega) (by omega) (jCe_t E77 r9), v1, v2, ⟨by first | exact jX_kd_n _ | decide, jT_p_le⟩, fun d h0 hm Qm x F kq => eM_due_b17 x F hβ hn hp5 hm6 hW hWp hWm k0 n0 k1 k2 j2 k3 k4 j4 i4 k5 k6 ⟨r6a, r6b⟩ k7 k8 ⟨r8a, r8b⟩ k9 k10 j10 kq⟩)
              · refine jr_if_ne rfl (fun z => absurd (by decide) z) (fun _ => ?_)
                refine jr_ic rfl ?_
                refine jr_zret rfl rfl rfl (Nat.zero_le _) (Nat.zero_le _) ?_
                exact k _ _ (Or.inr ⟨rfl, _, _, jCF_f (jCF_e (jCF_L xF (by decide)) (by omega) (by omega) E6) r1, v1, v2, ⟨by first | exact jX_kd_n _ | decide, jT_p_le⟩, fun d h0 hm Qm x F kq => eM_due_b10 x F hβ hn hp5 hm6 hW hWp hWm k0 n0 k1 k2 j2 k3 k4 j4 i4 k5 k6 kq⟩)
              · refine jr_if_ne rfl (fun z => absurd (by decide) z) (fun _ => ?_)
                refine jr_ic rfl ?_
                refine jr_zret rfl rfl rfl (Nat.zero_le _) (Nat.zero_le _) ?_
                exact k _ _ (Or.inr ⟨rfl, _, _, jCF_f (jCF_e (jCF_L xF (by decide)) (by omega) (by omega) E6) r1, v1, v2, ⟨by first | exact jX_kd_n _ | decide, jT_p_le⟩, fun d h0 hm Qm x F kq => eM_due_b11 x F hβ hn hp5 hm6 hW hWp hWm k0 n0 k1 k2 j2 k3 k4 j4 i4 k5 k6 r6 kq⟩)
            · refine jr_if_eq rfl (fun _ => ?_) (fun z => absurd (by decide) z)
              refine jr_ic rfl ?_
              refine jr_zret rfl rfl rfl (Nat.zero_le _) (Nat.zero_le _) ?_
              exact k _ _ (Or.inr ⟨rfl, _, _, jCF_f (jCF_e (jCF_L xF (by decide)) (by omega) (by omega) E55) r1, v1, v2, ⟨by first | exact jX_kd_n _ | decide, jT_p_le⟩, fun d h0 hm Qm x F kq => eM_due_b9 x F hβ hn hp5 hm6 hW hWp hWm k0 n0 k1 k2 j2 k3 k4 j4 i4 k5 kq⟩)
          · refine jr_if_ne rfl (fun z => absurd (by decide) z) (fun _ => ?_)
            refine jr_ic rfl ?_
            refine jr_zret rfl rfl rfl (Nat.zero_le _) (Nat.zero_le _) ?_
            exact k _ _ (Or.inr ⟨rfl, _, _, jCF_f (jCF_e (jCF_L xF (by decide)) (by omega) (by omega) E4) r1, v1, v2, ⟨by first | exact jX_kd_n _ | decide, jT_p_le⟩, fun d h0 hm Qm x F kq => eM_due_b8 x F hβ hn hp5 hm6 hW hWp hWm k0 n0 k1 k2 j2 k3 k4 j4 rfl kq⟩)
          · refine jr_if_ne rfl (fun z => absurd (by decide) z) (fun _ => ?_)
            refine jr_ic rfl ?_
            refine jr_zret rfl rfl rfl (Nat.zero_le _) (Nat.zero_le _) ?_
            exact k _ _ (Or.inr ⟨rfl, _, _, jCF_f (jCF_e (jCF_L xF (by decide)) (by omega) (by omega) E4) r1, v1, v2, ⟨by first | exact jX_kd_n _ | decide, jT_p_le⟩, fun d h0 hm Qm x F kq => eM_due_b6 x F hβ hn hp5 hm6 hW hWp hWm k0 n0 k1 k2 j2 k3 k4 kq⟩)
          · refine jr_if_ne rfl (fun z => absurd (by decide) z) (fun _ => ?_)
            refine jr_ic rfl ?_
            refine jr_zret rfl rfl rfl (Nat.zero_le _) (Nat.zero_le _) ?_
            exact k _ _ (Or.inr ⟨rfl, _, _, jCF_f (jCF_e (jCF_L xF (by decide)) (by omega) (by omega) E4) r1, v1, v2, ⟨by first | exact jX_kd_n _ | decide, jT_p_le⟩, fun d h0 hm Qm x F kq => eM_due_b7 x F hβ hn hp5 hm6 hW hWp hWm k0 n0 k1 k2 j2 k3 k4 j4 kq⟩)
        · refine jr_if_eq rfl (fun _ => ?_) (fun z => absurd (by decide) z)
          refine jr_ic rfl ?_
          refine jr_zret rfl rfl rfl (Nat.zero_le _) (Nat.zero_le _) ?_
          exact k _ _ (Or.inr ⟨rfl, _, _, jCF_f (jCF_e (jCF_L xF (by decide)) (by omega) (by omega) E33) r1, v1, v2, ⟨by first | exact jX_kd_n _ | decide, jT_p_le⟩, fun d h0 hm Qm x F kq => eM_due_b5 x F hβ hn hp5 hm6 hW hWp hWm k0 n0 k1 k2 j2 k3 kq⟩)
      · refine jr_if_ne rfl (fun z => absurd (by decide) z) (fun _ => ?_)
        refine jr_ic rfl ?_
        refine jr_zret rfl rfl rfl (Nat.zero_le _) (Nat.zero_le _) ?_
        exact k _ _ (Or.inr ⟨rfl, _, _, jCF_f (jCF_e (jCF_L xF (by decide)) (by omega) (by omega) E2) r1, v1, v2, ⟨by first | exact jX_kd_n _ | decide, jT_p_le⟩, fun d h0 hm Qm x F kq => eM_due_b3 x F hβ hn hp5 hm6 hW hWp hWm k0 n0 k1 k2 kq⟩)
      · refine jr_if_ne rfl (fun z => absurd (by decide) z) (fun _ => ?_)
        refine jr_ic rfl ?_
        refine jr_zret rfl rfl rfl (Nat.zero_le _) (Nat.zero_le _) ?_
        exact k _ _ (Or.inr ⟨rfl, _, _, jCF_f (jCF_e (jCF_L xF (by decide)) (by omega) (by omega) E2) r1, v1, v2, ⟨by first | exact jX_kd_n _ | decide, jT_p_le⟩, fun d h0 hm Qm x F kq => eM_due_b4 x F hβ hn hp5 hm6 hW hWp hWm k0 n0 k1 k2 j2 kq⟩)
    · refine jr_if_eq rfl (fun _ => ?_) (fun z => absurd (by decide) z)
      refine jr_ic rfl ?_
      refine jr_zret rfl rfl rfl (Nat.zero_le _) (Nat.zero_le _) ?_
      exact k _ _ (Or.inr ⟨rfl, _, _, jCF_f (jCF_e (jCF_L xF (by decide)) (by omega) (by omega) E1) r1, v1, v2, ⟨by first | exact jX_kd_n _ | decide, jT_p_le⟩, fun d h0 hm Qm x F kq => eM_due_b2 x F hβ hn hp5 hm6 hW hWp hWm k0 n0 k1 kq⟩)
  · refine jr_if_ne rfl (fun z => absurd (by decide) z) (fun _ => ?_)
    refine jr_ic rfl ?_
    refine jr_zret rfl rfl rfl (Nat.zero_le _) (Nat.zero_le _) ?_
    exact k _ _ (Or.inr ⟨rfl, _, _, jCF_f (xF) r1, v1, v2, ⟨by first | exact jX_kd_n _ | decide, jT_p_le⟩, fun d h0 hm Qm x F kq => eM_due_b0 x F hβ hn hp5 hm6 hW hWp hWm k0 kq⟩)
  · refine jr_if_ne rfl (fun z => absurd (by decide) z) (fun _ => ?_)
    refine jr_ic rfl ?_
    refine jr_zret rfl rfl rfl (Nat.zero_le _) (Nat.zero_le _) ?_
    exact k _ _ (Or.inr ⟨rfl, _, _, jCF_f (xF) r1, v1, v2, ⟨by first | exact jX_kd_n _ | decide, jT_p_le⟩, fun d h0 hm Qm x F kq => eM_due_b1 x F hβ hn hp5 hm6 hW hWp hWm k0 n0 kq⟩)

