set_option maxHeartbeats 800000 in
set_option maxRecDepth 100000 in
theorem pd_republic {d : Nat} {hc hm : jx_H} (hRel : jz_Rel hc hm) : jx_Ev jm_JV_republic (d + 89) 0 0 false 0 [jv_r 10 0] hc (fun r hc' => jx_Ev jm_MD_republic (d + 89) 0 0 false 1 [jv_r 11 0] hm (fun r' hm' => r = r' ∧ jz_Rel hc' hm')) := by
  obtain ⟨b, r, hC0, ⟨s, ts1, ts2, ts3, ts4⟩, hFa, hLy, hTi, hLe, hBo, hAc, hWo⟩ := hRel
  obtain ⟨hw, hG, hr2, hto, hsp, hR, hA, hL⟩ := id hC0
  have hb2 := hw.2.1
  have hβ : 1 - b < 2 := by omega
  show jx_W (jm_JV_republic, d + 89, 0, 0, false, 0, _) _ 0 0 0 [some (jv_r 10 0), none, none] [] _
  refine jr_aload rfl rfl ?_
  refine jr_getR rfl rfl rfl rfl (Or.inl rfl) ?_
  refine jr_aload rfl rfl ?_
  refine jr_getM rfl rfl rfl rfl hsp ?_
  refine jr_cv1 (mc' := 0) (ms' := 0) rfl jm_Rdr_readInto_n jm_Rdr_readInto_f rfl rfl rfl rfl rfl rfl rfl (Nat.zero_le _) (Nat.zero_le _) ?_
  refine ev_readInto (β := 1 - b) (ρ := 1 - r) (B := jh_I hc 16 0) (sz := s) (by omega) hβ hWo rfl ts1 ts3 (fun h2 T rr h3 K2 s2 o => ?_)
  rcases o with ⟨rfl, h1, t, V, W, D, y, hsun, gp⟩ | ⟨rfl, kd, pl, f, e8, e9, fk, gp⟩
  · have f3 : jCF (1 - r) h2 h3 := by
      rcases hsun with ⟨-, rfl⟩ | ⟨-, rfl⟩
      · exact y.2.2.1
      · exact jCF_I (jCF_I y.2.2.1 (by decide)) (by decide)
    have fr := jFR_mk K2 f3
    have hto3 : jh_M h3 10 0 11 = r + 1 := (congrFun (fr.2.2 10 0 (by decide)) 11).trans hto
    have hsp3 : jh_M h3 10 0 12 = (1 - r) + 1 := (congrFun (fr.2.2 10 0 (by decide)) 12).trans hsp
    refine jr_ist1 rfl rfl ?_
    refine jr_aload rfl rfl ?_
    refine jr_aload rfl rfl ?_
    refine jr_getR rfl rfl rfl rfl (Or.inl rfl) ?_
    refine jr_getI rfl rfl ?_
    refine jr_putI rfl rfl ?_
    refine jr_aload rfl rfl ?_
    refine jr_aload rfl rfl ?_
    refine jr_getR rfl rfl rfl rfl (Or.inl rfl) ?_
    refine jr_getI rfl rfl ?_
    rw [show jh_I (ju_I h3 10 0 (upd (jh_I h3 10 0) 15 (jh_I h3 6 0 8))) 6 0 9 = jh_I h3 6 0 9 from rfl]
    refine jr_putI rfl rfl ?_
    rw [jq_up]
    refine jr_aload rfl rfl ?_
    refine jr_getR rfl rfl rfl rfl (Or.inl rfl) ?_
    refine jr_ic rfl ?_
    refine jr_putI rfl rfl ?_
    rw [show jh_I (ju_I h3 10 0 (upd (upd (jh_I h3 10 0) 15 (jh_I h3 6 0 8)) 16 (jh_I h3 6 0 9))) 9 0 = jh_I h3 9 0 from rfl]
    refine jr_iload rfl rfl ?_
    refine jr_if_ne rfl (fun _ => ?_) (fun z => absurd z (by decide))
    refine jr_aload rfl rfl ?_
    refine jr_getM rfl rfl rfl rfl hto3 ?_
    refine jr_ast2 rfl rfl ?_
    refine jr_aload rfl rfl ?_
    refine jr_aload rfl rfl ?_
    refine jr_getM rfl rfl rfl rfl hsp3 ?_
    refine jr_putM rfl rfl rfl rfl ?_
    refine jr_aload rfl rfl ?_
    refine jr_aload rfl rfl ?_
    refine jr_putM rfl rfl rfl rfl ?_
    refine jr_aload rfl rfl ?_
    refine jr_cv0 (mc' := 0) (ms' := 0) rfl jm_JV_beginAnew_n jm_JV_beginAnew_f rfl rfl rfl rfl rfl rfl rfl (Nat.zero_le _) (Nat.zero_le _) ?_
    show jx_W (jm_JV_beginAnew, _, _, _, _, _, _) _ 0 0 0 [some _, none] [] _
    refine jr_aload rfl rfl ?_
    refine jr_getR rfl rfl rfl rfl (Or.inl rfl) ?_
    refine jr_aload rfl rfl ?_
    refine jr_getM rfl rfl rfl rfl rfl ?_
    refine jr_cv1 (mc' := 0) (ms' := 0) rfl jm_Cal_begin_n jm_Cal_begin_f rfl rfl rfl rfl rfl rfl rfl (Nat.zero_le _) (Nat.zero_le _) ?_
    refine ev_begin (ρ := 1 - r) (fun hG gB => ?_)
    refine jr_aload rfl rfl ?_
    refine jr_getR rfl rfl rfl rfl (Or.inl rfl) ?_
    refine jr_cv0 (mc' := 0) (ms' := 0) rfl jm_Acts_forgetAll_n jm_Acts_forgetAll_f rfl rfl rfl rfl rfl rfl rfl (Nat.zero_le _) (Nat.zero_le _) ?_
    show jx_W (jm_Acts_forgetAll, _, _, _, _, _, _) _ 0 0 0 [some _] [] _
    refine jr_aload rfl rfl ?_
    refine jr_ic rfl ?_
    refine jr_putI rfl rfl ?_
    refine jr_aload rfl rfl ?_
    refine jr_ic rfl ?_
    refine jr_putI rfl rfl ?_
    rw [jq_up]
    refine jr_vret rfl rfl (Nat.zero_le _) (Nat.zero_le _) ?_
    refine jr_aload rfl rfl ?_
    refine jr_getR rfl rfl rfl rfl (Or.inl rfl) ?_
    refine jr_ic rfl ?_
    refine jr_putI rfl rfl ?_
    refine jr_aload rfl rfl ?_
    refine jr_ic rfl ?_
    refine jr_putI rfl rfl ?_
    refine jr_ic rfl ?_
    refine jr_ist1 rfl rfl ?_
    refine jr_iload rfl rfl ?_
    refine jr_ic rfl ?_
    refine jr_icmp_ge rfl (fun z => absurd z (by decide)) (fun _ => ?_)
    refine jr_aload rfl rfl ?_
    refine jr_getR rfl rfl rfl rfl (Or.inl rfl) ?_
    refine jr_iload rfl rfl ?_
    refine jr_ic rfl ?_
    refine jr_zast (len := 3) rfl rfl (show _ = nI 0 from rfl) (by decide) ?_
    skip
    refine jr_iinc1 rfl rfl ?_
    refine jr_goto rfl ?_
    refine jr_iload rfl rfl ?_
    refine jr_ic rfl ?_
    refine jr_icmp_ge rfl (fun z => absurd z (by decide)) (fun _ => ?_)
    refine jr_aload rfl rfl ?_
    refine jr_getR rfl rfl rfl rfl (Or.inl rfl) ?_
    refine jr_iload rfl rfl ?_
    refine jr_ic rfl ?_
    refine jr_zast (len := 3) rfl rfl (show _ = nI 1 from rfl) (by decide) ?_
    rw [jq_up]
    refine jr_iinc1 rfl rfl ?_
    refine jr_goto rfl ?_
    refine jr_iload rfl rfl ?_
    refine jr_ic rfl ?_
    refine jr_icmp_ge rfl (fun z => absurd z (by decide)) (fun _ => ?_)
    refine jr_aload rfl rfl ?_
    refine jr_getR rfl rfl rfl rfl (Or.inl rfl) ?_
    refine jr_iload rfl rfl ?_
    refine jr_ic rfl ?_
    refine jr_zast (len := 3) rfl rfl (show _ = nI 2 from rfl) (by decide) ?_
    rw [jq_up]
    refine jr_iinc1 rfl rfl ?_
    refine jr_goto rfl ?_
    refine jr_iload rfl rfl ?_
    refine jr_ic rfl ?_
    refine jr_icmp_ge rfl (fun _ => ?_) (fun z => absurd (by decide) z)
    refine jr_vret rfl rfl (Nat.zero_le _) (Nat.zero_le _) ?_
    refine jr_aload rfl rfl ?_
    refine jr_getM rfl rfl rfl rfl ((congrFun (gB.2.2.1 10 0 (by decide)) 11).trans rfl) ?_
    refine jr_getI rfl rfl ?_
    refine jr_iret rfl rfl (Nat.zero_le _) (Nat.zero_le _) ?_
    refine eM_rp_pre (d := d + 68) (b := b) (B := jh_I hc 16 0) (s := s) hw.1 hb2 ts2 ts3 (fun j hj => by rw [ts4 j hj]) (fun h0 hm1 yy pp xx FF => ?_)
    refine gp (d + 68) _ yy h0 hm1 _ xx FF (fun hm2 F2 x2 => ?_)
    have b44 : jh_I hm2 11 0 44 = nI (1 - b) := x2.1.2.2.2.1
    have n67 : jh_I hm2 67 0 (1 - b) = nI (V 0 1) := x2.2.1.2.1.1
    show jx_W (jm_MD_republic, d + 89, 0, 0, false, 1, _) _ 0 0 51 [some _, some _] [] _
    refine jr_aload rfl rfl ?_
    refine jr_cv0 (mc' := 0) (ms' := 0) rfl jm_MD_isGood_n jm_MD_isGood_f rfl rfl rfl rfl rfl rfl rfl (Nat.zero_le _) (Nat.zero_le _) ?_
    show jx_W (jm_MD_isGood, _, _, _, _, _, _) _ 0 0 0 [some _] [] _
    refine jr_aload rfl rfl ?_
    refine jr_getI rfl rfl ?_
    refine jr_if_ne rfl (fun z => absurd x2.1.2.2.1 z) (fun _ => ?_)
    refine jr_ic rfl ?_
    refine jr_goto rfl ?_
    refine jr_zret rfl rfl rfl (Nat.zero_le _) (Nat.zero_le _) ?_
    refine jr_if_ne rfl (fun _ => ?_) (fun z => absurd z (by decide))
    refine jr_aload rfl rfl ?_
    refine jr_aload rfl rfl ?_
    refine jr_getI rfl rfl ?_
    refine jx_top (show _ = nI (1 - b) from b44) ?_
    refine jr_putI rfl rfl ?_
    refine jr_aload rfl rfl ?_
    refine jr_cv0 (mc' := 0) (ms' := 0) rfl jm_MD_begin_n jm_MD_begin_f rfl rfl rfl rfl rfl rfl rfl (Nat.zero_le _) (Nat.zero_le _) ?_
    refine eM_begin (b := 1 - b) (np := V 0 1) rfl hβ n67 y.2.2.2.1.2.1 (fun F hF => ?_)
    refine jr_aload rfl rfl ?_
    refine jr_ic rfl ?_
    refine jr_putI rfl rfl ?_
    rw [jq_up]
    refine jr_aload rfl rfl ?_
    refine jr_ic rfl ?_
    refine jr_putI rfl rfl ?_
    rw [jq_up]
    refine jr_ic rfl ?_
    refine jr_ist1 rfl rfl ?_
    refine jr_iload rfl rfl ?_
    refine jr_ic rfl ?_
    refine jr_icmp_ge rfl (fun z => absurd z (by decide)) (fun _ => ?_)
    refine jr_aload rfl rfl ?_
    refine jr_getR rfl rfl rfl rfl (Or.inl rfl) ?_
    refine jr_iload rfl rfl ?_
    refine jr_ic rfl ?_
    refine jr_zast (len := 3) rfl rfl (show _ = nI 0 from rfl) (by decide) ?_
    skip
    refine jr_iinc1 rfl rfl ?_
    refine jr_goto rfl ?_
    refine jr_iload rfl rfl ?_
    refine jr_ic rfl ?_
    refine jr_icmp_ge rfl (fun z => absurd z (by decide)) (fun _ => ?_)
    refine jr_aload rfl rfl ?_
    refine jr_getR rfl rfl rfl rfl (Or.inl rfl) ?_
    refine jr_iload rfl rfl ?_
    refine jr_ic rfl ?_
    refine jr_zast (len := 3) rfl rfl (show _ = nI 1 from rfl) (by decide) ?_
    rw [jq_up]
    refine jr_iinc1 rfl rfl ?_
    refine jr_goto rfl ?_
    refine jr_iload rfl rfl ?_
    refine jr_ic rfl ?_
    refine jr_icmp_ge rfl (fun z => absurd z (by decide)) (fun _ => ?_)
    refine jr_aload rfl rfl ?_
    refine jr_getR rfl rfl rfl rfl (Or.inl rfl) ?_
    refine jr_iload rfl rfl ?_
    refine jr_ic rfl ?_
    refine jr_zast (len := 3) rfl rfl (show _ = nI 2 from rfl) (by decide) ?_
    rw [jq_up]
    refine jr_iinc1 rfl rfl ?_
    refine jr_goto rfl ?_
    refine jr_iload rfl rfl ?_
    refine jr_ic rfl ?_
    refine jr_icmp_ge rfl (fun _ => ?_) (fun z => absurd (by decide) z)
    refine jr_aload rfl rfl ?_
    refine jr_getR rfl rfl rfl rfl (Or.inl rfl) ?_
    refine jr_aload rfl rfl ?_
    refine jr_getI rfl rfl ?_
    refine jr_iald (len := 2) rfl rfl rfl (by omega) ?_
    refine jr_iret rfl rfl (Nat.zero_le _) (Nat.zero_le _) ?_
    refine ⟨congrArg (fun z => some (jv_i z)) (Eq.trans (b := nI (V 0 0)) ?_ ?_), jz_Rel_good hb2 hr2 hTi hWo fr y hsun pp F2 x2 ?_ ?_⟩
    · refine (congrFun (gB.1 7 (1 - r) (by omega)) 0).trans ?_
      show jh_I h3 7 (1 - r) 0 = _
      have e1 := y.2.1.1.1
      rcases hsun with ⟨-, rfl⟩ | ⟨-, rfl⟩
      · exact e1
      · rw [jFs_7, jg_un (by decide), jg_un (by decide)]
        exact e1
    · exact x2.2.1.1.1.symm
    · exact ⟨fun a i z => (if_neg (fun y => z ⟨y.2, by omega⟩)).trans ((if_neg (fun y => z ⟨y.2, by omega⟩)).trans ((if_neg (fun y => z ⟨y.2, by omega⟩)).trans ((if_neg (fun y => z ⟨y.2, by omega⟩)).trans ((gB.1 a i (fun y => z ⟨y.1, by omega⟩)).trans ((if_neg (fun y => z ⟨y.2, by omega⟩)).trans (if_neg (fun y => z ⟨y.2, by omega⟩))))))), gB.2.1, ⟨(congrFun (gB.2.2.1 10 0 (by decide)) 11).trans rfl, (congrFun (gB.2.2.1 10 0 (by decide)) 12).trans rfl, gB.2.2.2.2.1⟩, (congrFun (gB.1 9 0 (by decide)) 5).trans rfl, ⟨(congrFun (gB.1 10 0 (by decide)) 15).trans rfl, (congrFun (gB.1 10 0 (by decide)) 16).trans rfl, rfl, (congrFun (gB.1 10 0 (by decide)) 14).trans rfl⟩, ⟨rfl, rfl, rfl⟩, (fun i hi => by
        rcases (show i = 0 ∨ i = 1 ∨ i = 2 by omega) with rfl | rfl | rfl <;> rfl), gB.2.2.2.2.2.1, gB.2.2.2.2.2.2.1, gB.2.2.2.2.2.2.2.1, gB.2.2.2.2.2.2.2.2⟩
    · refine ⟨fun a i z => (if_neg (fun y => z ⟨y.2, by omega⟩)).trans ((if_neg (fun y => z ⟨y.2, by omega⟩)).trans ((if_neg (fun y => z ⟨y.2, by omega⟩)).trans ((if_neg (fun y => z ⟨y.2, by omega⟩))))), fun q z1 z2 z3 z4 z5 => ?_, ⟨rfl, rfl, rfl, rfl, rfl⟩, fun j hj => hF j hj, (fun i hi => by
        rcases (show i = 0 ∨ i = 1 ∨ i = 2 by omega) with rfl | rfl | rfl <;> rfl)⟩
      show upd (upd (upd (upd (upd (jh_I hm2 11 0) 43 (nI (1 - b))) 60 0) 61 0) 80 0) 65 0 q = _
      rw [jg_un z4, jg_un z5, jg_un z3, jg_un z2, jg_un z1]
  · refine jr_ist1 rfl rfl ?_
    refine jr_aload rfl rfl ?_
    refine jr_aload rfl rfl ?_
    refine jr_getR rfl rfl rfl rfl (Or.inl rfl) ?_
    refine jr_getI rfl rfl ?_
    refine jr_putI rfl rfl ?_
    refine jr_aload rfl rfl ?_
    refine jr_aload rfl rfl ?_
    refine jr_getR rfl rfl rfl rfl (Or.inl rfl) ?_
    refine jr_getI rfl rfl ?_
    rw [show jh_I (ju_I h3 10 0 (upd (jh_I h3 10 0) 15 (jh_I h3 6 0 8))) 6 0 9 = jh_I h3 6 0 9 from rfl]
    refine jr_putI rfl rfl ?_
    rw [jq_up]
    refine jr_aload rfl rfl ?_
    refine jr_getR rfl rfl rfl rfl (Or.inl rfl) ?_
    refine jr_ic rfl ?_
    refine jr_putI rfl rfl ?_
    rw [show jh_I (ju_I h3 10 0 (upd (upd (jh_I h3 10 0) 15 (jh_I h3 6 0 8)) 16 (jh_I h3 6 0 9))) 9 0 = jh_I h3 9 0 from rfl]
    refine jr_iload rfl rfl ?_
    refine jr_if_ne rfl (fun z => absurd (by decide) z) (fun _ => ?_)
    refine jr_ic rfl ?_
    refine jr_iret rfl rfl (Nat.zero_le _) (Nat.zero_le _) ?_
    refine eM_rp_pre (d := d + 68) (b := b) (B := jh_I hc 16 0) (s := s) hw.1 hb2 ts2 ts3 (fun j hj => by rw [ts4 j hj]) (fun h0 hm1 yy pp xx FF => ?_)
    refine gp (d + 68) _ yy h0 hm1 _ xx FF (fun hm3 F3 m4 mp => ?_)
    show jx_W (jm_MD_republic, d + 89, 0, 0, false, 1, _) _ 0 0 51 [some _, some _] [] _
    refine jr_aload rfl rfl ?_
    refine jr_cv0 (mc' := 0) (ms' := 0) rfl jm_MD_isGood_n jm_MD_isGood_f rfl rfl rfl rfl rfl rfl rfl (Nat.zero_le _) (Nat.zero_le _) ?_
    show jx_W (jm_MD_isGood, _, _, _, _, _, _) _ 0 0 0 [some _] [] _
    refine jr_aload rfl rfl ?_
    refine jr_getI rfl rfl ?_
    refine jr_if_ne rfl (fun _ => ?_) (fun z => absurd z (by rw [m4]; exact fk.1))
    refine jr_ic rfl ?_
    refine jr_zret rfl rfl rfl (Nat.zero_le _) (Nat.zero_le _) ?_
    refine jr_if_ne rfl (fun z => absurd (by decide) z) (fun _ => ?_)
    refine jr_ic rfl ?_
    refine jr_iret rfl rfl (Nat.zero_le _) (Nat.zero_le _) ?_
    refine ⟨rfl, ?_⟩
    have e := jz_Rel_bad hC0 hLy hTi hLe hBo hAc hWo (jFR_mk K2 f) pp F3 m4 mp
    rw [← e8, ← e9] at e
    exact e
