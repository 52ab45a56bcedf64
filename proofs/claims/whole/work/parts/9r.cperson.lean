theorem jn_pr (n : Nat) : nI (n + 1) - 1 = nI n := by
  rw [← jn_S]
  exact Int32.add_sub_cancel _ _
theorem jLS_f {h0 h h' : jx_H} {B : Nat → Int32} {sz T ρ t k : Nat} {V : Nat → Nat → Nat} {W : Nat → Nat → List Nat} {D : Nat → Int32} (x : jLS h0 h B sz T ρ t V W D) (g : jCf h h') (z : jTS h' B sz T (t + k)) : jLS h0 h' B sz T ρ (t + k) V W D := ⟨z, jCD_f x.2.1 g, jCF_f x.2.2.1 g, x.2.2.2.1, Nat.le_trans x.2.2.2.2.1 (Nat.add_le_add_left (jT_p_mn k) _), x.2.2.2.2.2⟩
theorem jCD_29 {h : jx_H} {ρ : Nat} {w : Int64} {V : Nat → Nat → Nat} {W : Nat → Nat → List Nat} {D : Nat → Int32} (x : jCD h ρ V W D) : jCD (ju_L h 29 0 (vp_updL (jh_L h 29 0) (V 0 1) w)) ρ V W D := by
  obtain ⟨a, ⟨b1, b2⟩, x⟩ := x
  exact ⟨a, ⟨b1, fun j hj => ⟨(b2 j hj).1, (show vp_updL (jh_L h 29 0) (V 0 1) w j = _ from jg_Lun (by omega)).trans (b2 j hj).2⟩⟩, x⟩
set_option maxHeartbeats 800000 in
set_option maxRecDepth 100000 in
theorem ev_person {d : Nat} {h : jx_H} {Q : Option jx_V → jx_H → Prop} {h0 : jx_H} {B : Nat → Int32} {sz T β ρ t : Nat} {V : Nat → Nat → Nat} {W : Nat → Nat → List Nat} {D : Nat → Int32} (x : jLS h0 h B sz T ρ t V W D) (hβ : β < 2) (hn : V 0 1 < 5) (k : ∀ r h', jLO3 jm_MD_readPerson 14 h0 B sz T β ρ t V W D r h' → Q r h')  : jx_Ev jm_Rdr_readPerson (d + 85) 0 0 false 0 [jv_r 6 0] h Q := by
  show jx_W (jm_Rdr_readPerson, d + 85, 0, 0, false, 0, _) Q 0 0 0 [some (jv_r 6 0)] [] _
  obtain ⟨xz, xD, xF, xV, x5, x6⟩ := id x
  have hW : jnW (W 1) (V 0 1) := xV.2.2.2.2.2.2.2.2.2.2.2.2.2.2.2.2.2.2.2.1
  have hr : ∀ j, j < V 0 1 → jh_L h 29 0 j = jy_key (W 1 j) := fun j hj => (xD.2.1.2 j hj).2
  have hρ : jh_M h 6 0 4 = ρ + 1 := xD.2.2.2.2.2.2.2.2.2.2.2.2.2.2
  refine jr_aload rfl rfl ?_
  refine jr_aload rfl rfl ?_
  refine jr_getR rfl rfl rfl rfl (Or.inl rfl) ?_
  refine jr_aload rfl rfl ?_
  refine jr_getM rfl rfl rfl rfl hρ ?_
  refine jr_getI rfl rfl ?_
  rw [xD.2.1.1]
  refine jr_cv2 (mc' := 0) (ms' := 0) rfl jm_Rdr_wantNewName_n jm_Rdr_wantNewName_f rfl rfl rfl rfl rfl rfl rfl (Nat.zero_le _) (Nat.zero_le _) ?_
  refine ev_newN_p xz hW hr hn (fun k0 n0 h1 g1 z1 => ?_) (fun k0 h9 r1 v1 v2 => ?_) (fun k0 n0 h9 r1 v1 v2 => ?_)
  · refine jr_if_eq rfl (fun z => absurd z (by decide)) (fun _ => ?_)
    refine jr_aload rfl rfl ?_
    refine jr_ic rfl ?_
    refine jr_cv1 (mc' := 0) (ms' := 0) rfl jm_Rdr_want_n jm_Rdr_want_f rfl rfl rfl rfl rfl rfl rfl (Nat.zero_le _) (Nat.zero_le _) ?_
    refine ev_want (w := 110) (t := t + 1) (show jTS h1 B sz T (t + 1) from z1) (by decide) (by decide) (fun k1 h2 g2 z2 => ?_) (fun k1 h9 r1 v1 v2 => ?_)
    · refine jr_if_eq rfl (fun z => absurd z (by decide)) (fun _ => ?_)
      refine jr_aload rfl rfl ?_
      refine jr_ic rfl ?_
      refine jr_ic rfl ?_
      refine jr_cv2 (mc' := 0) (ms' := 0) rfl jm_Rdr_wantNumber_n jm_Rdr_wantNumber_f rfl rfl rfl rfl rfl rfl rfl (Nat.zero_le _) (Nat.zero_le _) ?_
      refine ev_wantN (lo := 0) (hi := 9) (t := t + 2) (show jTS h2 B sz T (t + 2) from z2) (by decide) (by decide) (fun k2 r2 r2b h3 g3 z3 w3 => ?_) (fun k2 h9 r1 v1 v2 => ?_) (fun k2 r2 h9 r1 v1 v2 => ?_)
      · refine jr_if_ne rfl (fun _ => ?_) (fun z => absurd z (by decide))
        have d3 : jCD h3 ρ V W D := jCD_f (jCD_f (jCD_f (jCD_29 xD) g1) g2) g3
        have n3 : jh_I h3 7 ρ 3 = nI (V 0 1) := d3.2.1.1
        have m3 : jh_M h3 6 0 4 = ρ + 1 := d3.2.2.2.2.2.2.2.2.2.2.2.2.2.2
        have xs := jLS_person (v := (jT_v B sz (jT_p B sz (t + 2)))) x (jCf_t g1 (jCf_t g2 g3)) (show jTS h3 B sz T (t + 3) from z3) hn r2b (jT_k3 k0)
        refine jr_aload rfl rfl ?_
        refine jr_getM rfl rfl rfl rfl (by first | exact m3 | exact od) ?_
        refine jr_aload rfl rfl ?_
        refine jr_getI rfl rfl ?_
        rw [show jh_I h3 6 0 7 = nI (jT_v B sz (jT_p B sz (t + 2))) from w3]
        refine jr_cv1 (mc' := 0) (ms' := 0) rfl jm_Rep_addPerson_n jm_Rep_addPerson_f rfl rfl rfl rfl rfl rfl rfl (Nat.zero_le _) (Nat.zero_le _) ?_
        show jx_W (jm_Rep_addPerson, _, _, _, _, _, _) _ 0 0 0 [some _, some _] [] _
        refine jr_aload rfl rfl ?_
        refine jr_getI rfl rfl ?_
        refine jr_ic rfl ?_
        refine jr_icmp_ge rfl (fun z => absurd z (by rw [n3]; exact nI_ge (a := V 0 1) (b := 5) hn (by decide))) (fun _ => ?_)
        refine jr_aload rfl rfl ?_
        refine jr_getR rfl rfl rfl rfl (Or.inl rfl) ?_
        refine jr_aload rfl rfl ?_
        refine jr_getI rfl rfl ?_
        refine jr_iload rfl rfl ?_
        refine jr_iast (len := 5) rfl rfl n3 (by omega) ?_
        refine jr_aload rfl rfl ?_
        refine jr_dup_r rfl ?_
        refine jr_getI rfl rfl ?_
        refine jr_ic rfl ?_
        refine jr_iadd rfl ?_
        rw [show jh_I (ju_I h3 23 ρ (upd (jh_I h3 23 ρ) (V 0 1) (nI (jT_v B sz (jT_p B sz (t + 2)))))) 7 ρ 3 = nI (V 0 1) from n3, jn_S]
        refine jr_putI rfl rfl ?_
        refine jr_vret rfl rfl (Nat.zero_le _) (Nat.zero_le _) ?_
        refine jr_aload rfl rfl ?_
        refine jr_getR rfl rfl rfl rfl (Or.inl rfl) ?_
        refine jr_getI rfl rfl ?_
        refine jr_ic rfl ?_
        refine jr_icmp_eq rfl (fun c28 => ?_) (fun c28 => ?_)
        · refine jr_aload rfl rfl ?_
          refine jr_getR rfl rfl rfl rfl (Or.inl rfl) ?_
          refine jr_cv0 (mc' := 0) (ms' := 0) rfl jm_Tape_take_n jm_Tape_take_f rfl rfl rfl rfl rfl rfl rfl (Nat.zero_le _) (Nat.zero_le _) ?_
          have k3 : jT_K B sz (t + 3) = 111 := jn_eq ((show jh_I h3 9 0 8 = nI (jT_K B sz (t + 3)) from z3.2.1.2.1).symm.trans c28) (Nat.lt_trans (show jT_K B sz (t + 3) < 256 from jT_k_lt) (by decide)) (by decide)
          have hn1 := jT_next (t := t + 3) z3.1 z3.2.2 (show jT_K B sz (t + 3) ≠ 0 by omega)
          refine ev_take (B := B) (sz := sz) (T := T) (t := t + 4) (h := (jFp h3 ρ (V 0 1) (jT_v B sz (jT_p B sz (t + 2))))) z3.1 z3.2.1.1 hn1 (fun h4 g4 c4 => ?_)
          have x4 : jLS h0 h4 B sz T ρ (t + 3 + 1) (jv2 (jv2 V 0 1 (V 0 1 + 1)) 3 (V 0 1) (jT_v B sz (jT_p B sz (t + 2)))) (jw2 W 1 (V 0 1) (jT_wd B sz (jT_p B sz t))) D := jLS_f xs (jCf_G g4) (jTS_take (show jTS (jFp h3 ρ (V 0 1) (jT_v B sz (jT_p B sz (t + 2)))) B sz T (t + 3) from z3) g4 c4 hn1)
          obtain ⟨q1, q2, q3, q4, q5, q6⟩ := id x4
          obtain ⟨-, ⟨nn, -⟩, -, -, -, -, -, -, -, o12, o15, -, oi2, oi3, od⟩ := id q2
          refine jr_aload rfl rfl ?_
          refine jr_aload rfl rfl ?_
          refine jr_getM rfl rfl rfl rfl (by first | exact m3 | exact od) ?_
          refine jr_getI rfl rfl ?_
          refine jr_ic rfl ?_
          refine jr_isub rfl ?_
          rw [show jh_I h4 7 ρ 3 = nI (V 0 1 + 1) from nn, jn_pr]
          refine jr_cv1 (mc' := 0) (ms' := 0) rfl jm_Rdr_readFormula_n jm_Rdr_readFormula_f rfl rfl rfl rfl rfl rfl rfl (Nat.zero_le _) (Nat.zero_le _) ?_
          refine ev_formula (w := V 0 1) (u := V 0 3) (c := V 0 4) (β := β) q1 od o12 o15 (oi2.elim (fun y => Or.inl ⟨y.1, fun q hq => by rw [oi3 q hq]; exact y.2 q hq⟩) Or.inr) (by omega) ⟨q4.2.2.2.1, Nat.zero_le _, q5, q6⟩ (fun x1 t1 c1 h6 l1 l2 l3 l4 l5 z6 a12 a15 aa rk tr gg e27 => ?_) (fun kd pl h6 y1 y2 y3 y4 y5 y6 => ?_)
          · have dd : ∀ q, q < V 0 4 → jh_I h6 25 ρ q = D q := fun q hq => (gg.2.2.2.2.2.2.1 q hq).trans (oi3 q hq)
            rcases rk with rk | rk
            · refine jr_zret rfl rfl rfl (Nat.zero_le _) (Nat.zero_le _) ?_
              exact k _ _ (Or.inl (Or.inl ⟨rfl, t1, jVr (jv2 (jv2 V 0 1 (V 0 1 + 1)) 3 (V 0 1) (jT_v B sz (jT_p B sz (t + 2)))) (V 0 1) (V 0 3 + x1) c1, (jw2 W 1 (V 0 1) (jT_wd B sz (jT_p B sz t))), jh_I h6 25 ρ, by have e5 : jVr (jv2 (jv2 V 0 1 (V 0 1 + 1)) 3 (V 0 1) (jT_v B sz (jT_p B sz (t + 2)))) (V 0 1) (V 0 3 + x1) c1 12 5 = V 12 5 := jVr_n (by decide) (by omega); show V 0 0 + (V 0 1 + 1) + V 0 2 + V 0 5 + jVr (jv2 (jv2 V 0 1 (V 0 1 + 1)) 3 (V 0 1) (jT_v B sz (jT_p B sz (t + 2)))) (V 0 1) (V 0 3 + x1) c1 12 5 + V 0 6 + V 0 7 = _; rw [e5]; unfold jsm; omega, jLS_form x4 (w := V 0 1) (by omega) (Or.inl (Nat.lt_succ_self _)) l2 l4 l5 z6 a12 a15 aa gg e27 (by omega), fun d h0 hm Qm x F kq => eM_person_g1 (D := jh_I h6 25 ρ) (jML_D x dd) F hβ hn hW k0 n0 k1 k2 r2b k3 (fun w hw => (xV.2.2.2.2.2.2.2.2.2.2.2.2.2.2.2.2.1 w hw).2.2.1) (by omega) tr rk (fun h7 y7 y8 => kq h7 y7 (by rw [jVr_pp]; exact y8))⟩))
            · refine jr_zret rfl rfl rfl (Nat.zero_le _) (Nat.zero_le _) ?_
              exact k _ _ (Or.inr ⟨rfl, t1, z6, rk, jGF_CF x4.2.2.1 gg, fun d h0 hm Qm x F kq => eM_person_r4 (jML_D x dd) F hβ hn hW k0 n0 k1 k2 r2b k3 tr rk kq⟩)
          · refine jr_zret rfl rfl rfl (Nat.zero_le _) (Nat.zero_le _) ?_
            exact k _ _ (Or.inl (Or.inr ⟨rfl, kd, pl, y6 h0 x4.2.2.1, y1, y2, ⟨by rcases y3.1 with e | e <;> (rw [e]; decide), y3.2⟩, fun d h0 hm Qm x F kq => eM_person_rB (jML_D x (fun q hq => (y5 q hq).trans (oi3 q hq))) F hβ hn hW k0 n0 k1 k2 r2b k3 y3.1 y4 kq⟩))
        · refine jr_ic rfl ?_
          refine jr_zret rfl rfl rfl (Nat.zero_le _) (Nat.zero_le _) ?_
          have k3 : ¬ jT_K B sz (t + 3) = 111 := fun y => c28 ((show jh_I h3 9 0 8 = nI (jT_K B sz (t + 3)) from z3.2.1.2.1).trans (congrArg nI y))
          exact k _ _ (Or.inl (Or.inl ⟨rfl, t + 3, _, _, D, by show V 0 0 + (V 0 1 + 1) + V 0 2 + V 0 5 + V 12 5 + V 0 6 + V 0 7 = _; unfold jsm; omega, xs, fun d h0 hm Qm x F kq => eM_person_g0 x F hβ hn hW k0 n0 k1 k2 r2b k3 kq⟩))
      · refine jr_if_ne rfl (fun z => absurd (by decide) z) (fun _ => ?_)
        refine jr_ic rfl ?_
        refine jr_zret rfl rfl rfl (Nat.zero_le _) (Nat.zero_le _) ?_
        exact k _ _ (Or.inl <| Or.inr ⟨rfl, _, _, jCF_f (jCF_f (jCF_f (jCF_L xF (by decide)) g1) g2) r1, v1, v2, ⟨by first | exact jX_kd_n _ | decide, jT_p_le⟩, fun d h0 hm Qm x F kq => eM_person_b3 x F hβ hn hW k0 n0 k1 k2 kq⟩)
      · refine jr_if_ne rfl (fun z => absurd (by decide) z) (fun _ => ?_)
        refine jr_ic rfl ?_
        refine jr_zret rfl rfl rfl (Nat.zero_le _) (Nat.zero_le _) ?_
        exact k _ _ (Or.inl <| Or.inr ⟨rfl, _, _, jCF_f (jCF_f (jCF_f (jCF_L xF (by decide)) g1) g2) r1, v1, v2, ⟨by first | exact jX_kd_n _ | decide, jT_p_le⟩, fun d h0 hm Qm x F kq => eM_person_b4 x F hβ hn hW k0 n0 k1 k2 r2 kq⟩)
    · refine jr_if_eq rfl (fun _ => ?_) (fun z => absurd (by decide) z)
      refine jr_ic rfl ?_
      refine jr_zret rfl rfl rfl (Nat.zero_le _) (Nat.zero_le _) ?_
      exact k _ _ (Or.inl <| Or.inr ⟨rfl, _, _, jCF_f (jCF_f (jCF_L xF (by decide)) g1) r1, v1, v2, ⟨by first | exact jX_kd_n _ | decide, jT_p_le⟩, fun d h0 hm Qm x F kq => eM_person_b2 x F hβ hn hW k0 n0 k1 kq⟩)
  · refine jr_if_eq rfl (fun _ => ?_) (fun z => absurd (by decide) z)
    refine jr_ic rfl ?_
    refine jr_zret rfl rfl rfl (Nat.zero_le _) (Nat.zero_le _) ?_
    exact k _ _ (Or.inl <| Or.inr ⟨rfl, _, _, jCF_f (xF) r1, v1, v2, ⟨by first | exact jX_kd_n _ | decide, jT_p_le⟩, fun d h0 hm Qm x F kq => eM_person_b0 x F hβ hn hW k0 kq⟩)
  · refine jr_if_eq rfl (fun _ => ?_) (fun z => absurd (by decide) z)
    refine jr_ic rfl ?_
    refine jr_zret rfl rfl rfl (Nat.zero_le _) (Nat.zero_le _) ?_
    exact k _ _ (Or.inl <| Or.inr ⟨rfl, _, _, jCF_f (xF) r1, v1, v2, ⟨by first | exact jX_kd_n _ | decide, jT_p_le⟩, fun d h0 hm Qm x F kq => eM_person_b1 x F hβ hn hW k0 n0 kq⟩)

