def jw_wc (hc : jx_H) (n : Nat) (x1 x2 x3 x4 x5 : Int32) : jx_H := ju_I (ju_I (ju_I (ju_I (ju_I hc 52 0 (upd (jh_I hc 52 0) n x1)) 53 0 (upd (jh_I hc 53 0) n x2)) 54 0 (upd (jh_I hc 54 0) n x3)) 55 0 (upd (jh_I hc 55 0) n x4)) 4 0 (upd (jh_I hc 4 0) 4 x5)
def jw_wm (hm : jx_H) (n : Nat) (y1 y2 y3 y4 y5 y6 : Int32) : jx_H := ju_I (ju_I (ju_I (ju_I (ju_I (ju_I hm 113 0 (upd (jh_I hm 113 0) n y1)) 114 0 (upd (jh_I hm 114 0) n y2)) 115 0 (upd (jh_I hm 115 0) n y3)) 116 0 (upd (jh_I hm 116 0) n y4)) 117 0 (upd (jh_I hm 117 0) n y5)) 11 0 (upd (jh_I hm 11 0) 80 y6)
theorem jz_Rel_wr {hc hm : jx_H} {b r n q m e t : Nat} {x3 y4 x5 y6 : Int32} (hC : jz_C hc hm b r) (hTa : jz_Ta hc hm) (hFa : jz_Fa hc hm) (hLy : jz_Ly hc hm) (hTi : jz_Ti hc hm) (hBo : jz_Bo hc hm b r) (hAc : jz_Ac hc hm b) (hWo : jz_Wo hc) (e4 : ∀ j, j < n → jz_Le1 hc hm b j)
    (hn : n < 30) (hq : q ≤ 400) (hm1 : m < jz_nm hm b) (he : 1 ≤ e) (he2 : e ≤ 31) (h3 : x3 = nI t) (h4 : y4 = nI t) (h5 : x5 = nI (n + 1)) (h6 : y6 = nI (n + 1)) : jz_Rel (jw_wc hc n (nI q) (nI (m * 32 + e)) x3 (-1) x5) (jw_wm hm n (nI q) (nI m) (nI e) y4 (-1) y6) := by
  subst h3 h4 h5 h6
  obtain ⟨c1, c2, c3, c4, c5, c6, c7, c8⟩ := hC
  obtain ⟨s, t1, t2, t3⟩ := hTa
  obtain ⟨f1, f2⟩ := hFa
  obtain ⟨s2, l1, l2, l3, l4⟩ := hLy
  obtain ⟨t', i1, i2, i3⟩ := hTi
  obtain ⟨n2, u, a1, a2, a3, a4, a5, σ, g1, g2, g3, g4, g5, g6⟩ := hAc
  refine ⟨b, r, ⟨⟨c1.1, c1.2.1, c1.2.2.1, c1.2.2.2⟩, c2, c3, c4, c5, c6, c7, c8⟩, ⟨s, t1, t2, t3⟩, ⟨f1, f2⟩, ⟨s2, l1, l2, l3, l4⟩, ⟨t', i1, i2, i3⟩, ⟨n + 1, by omega, rfl, rfl, fun i hi => ?_⟩, hBo, ⟨n2, u, a1, a2, a3, a4, a5, σ, g1, g2, g3, g4, g5, fun j' hj => jz_act_t (by unfold jw_wm; rw [jN_u _ _ _ _ rfl, jN_u _ _ _ _ rfl, jN_u _ _ _ _ rfl, jN_u _ _ _ _ rfl, jN_u _ _ _ _ rfl, jN_u _ _ _ _ rfl]) (g6 j' hj)⟩, hWo⟩
  by_cases z : i = n
  · subst z
    exact ⟨q, m, e, t, jg_us _ _ _, jg_us _ _ _, hq, jg_us _ _ _, hm1, jg_us _ _ _, he, he2, jg_us _ _ _, jg_us _ _ _, jg_us _ _ _, (jg_us (jh_I hc 55 0) i (-1)).trans (jg_us (jh_I hm 117 0) i (-1)).symm, Or.inl (jg_us (jh_I hm 117 0) i (-1))⟩
  · obtain ⟨q', m', e', tt, h1, h2, h3, h4, h5, h6, h7, h8, h9, h10, h11, h12, h13⟩ := e4 i (by omega)
    exact ⟨q', m', e', tt, (jg_un z).trans h1, (jg_un z).trans h2, h3, (jg_un z).trans h4, h5, (jg_un z).trans h6, h7, h8, (jg_un z).trans h9, (jg_un z).trans h10, (jg_un z).trans h11, ((jg_un z : upd (jh_I hc 55 0) n (-1) i = _).trans h12).trans (jg_un z : upd (jh_I hm 117 0) n (-1) i = _).symm, by
      rw [show jh_I (jw_wm hm n (nI q) (nI m) (nI e) (nI t) (-1) (nI (n + 1))) 117 0 i = jh_I hm 117 0 i from (jg_un z : upd (jh_I hm 117 0) n (-1) i = _)]
      exact h13⟩
set_option maxHeartbeats 800000 in
set_option maxRecDepth 100000 in
theorem pd_ledger {d : Nat} {hc hm : jx_H} {x y z : Int32} (hRel : jz_Rel hc hm) : jx_Ev jm_JV_ledger (d + 40) 0 0 false 0 [jv_r 10 0, jv_i x, jv_i y, jv_i z] hc (fun r hc' => jx_Ev jm_MD_ledger (d + 40) 0 0 false 1 [jv_r 11 0, jv_i x, jv_i y, jv_i z] hm (fun r' hm' => r = r' ∧ jz_Rel hc' hm')) := by
  have hRel0 := hRel
  obtain ⟨b, r, ⟨hw, hG, hr2, hto, hsp, hR, hA, hL⟩, hTa, hFa, hLy, hTi, hLe, hBo, hAc, hWo⟩ := hRel
  have hb2 := hw.2.1
  have hnm := hw.2.2.1.1
  have hnm5 := hnm.2
  have km1 : (jh_I hc 7 r 0).toInt = (jz_nm hm b : Int) := by rw [hR.1]; exact (congrArg Int32.toInt hnm.1).trans (nI_toInt (by omega))
  have km2 : (jh_I hm 66 0 b).toInt = (jz_nm hm b : Int) := (congrArg Int32.toInt hnm.1).trans (nI_toInt (by omega))
  have km3 : (jh_I hm 66 0 b - 1).toInt = (jz_nm hm b : Int) - 1 := by rw [Int32.toInt_sub, km2, show (1 : Int32).toInt = 1 from rfl]; exact jn_sm (by omega) (by omega)
  obtain ⟨n, e1, e2, e3, e4⟩ := hLe
  obtain ⟨t, i1, i2, i3⟩ := hTi
  have g2 := jz_gi e2 (by omega)
  have g3 := jz_gi e3 (by omega)
  rcases nI_dec' x 0 400 (by omega) with ⟨q, rfl, -, hq, hq2⟩ | hx
  · rcases nI_dec y (jz_nm hm b) (by omega) with ⟨m, rfl, hm1, hm2⟩ | hy
    · rcases nI_dec' z 1 31 (by omega) with ⟨e, rfl, he, he2, he3⟩ | hz
      · rcases Nat.lt_or_ge n 30 with hn30 | hn30
        · show jx_W (jm_JV_ledger, d + 40, 0, 0, false, 0, _) _ 0 0 0 [some (jv_r 10 0), some (jv_i (nI q)), some (jv_i (nI m)), some (jv_i (nI e))] [] _
          refine jr_aload rfl rfl ?_
          refine jr_getM rfl rfl rfl rfl hto ?_
          refine jr_iload rfl rfl ?_
          refine jr_cv1 (mc' := 0) (ms' := 0) rfl jm_Rep_hasMonth_n jm_Rep_hasMonth_f rfl rfl rfl rfl rfl rfl rfl (Nat.zero_le _) (Nat.zero_le _) ?_
          show jx_W (jm_Rep_hasMonth, _, _, _, _, _, _) _ 0 0 0 [some _, some _] [] _
          refine jr_iload rfl rfl ?_
          refine jr_if_lt rfl (fun c1RephasMonth => ?_) (fun c1RephasMonth => ?_)
          · refine jr_ic rfl ?_
            refine jr_zret rfl rfl rfl (Nat.zero_le _) (Nat.zero_le _) ?_
            refine jr_if_ne rfl (fun z => absurd (by decide) z) (fun _ => ?_)
            refine jr_ic rfl ?_
            refine jr_iret rfl rfl (Nat.zero_le _) (Nat.zero_le _) ?_
            show jx_W (jm_MD_ledger, d + 40, 0, 0, false, 1, _) _ 0 0 0 [some _, some _, some _, some _] [] _
            refine jr_iload rfl rfl ?_
            refine jr_ic rfl ?_
            refine jr_ic rfl ?_
            refine jr_cs3 (mc' := 0) (ms' := 0) rfl jm_MD_isIn_n jm_MD_isIn_f rfl rfl rfl rfl rfl (Nat.zero_le _) (Nat.zero_le _) ?_
            show jx_W (jm_MD_isIn, _, _, _, _, _, _) _ 0 0 0 [some _, some _, some _] [] _
            refine jr_iload rfl rfl ?_
            refine jr_iload rfl rfl ?_
            refine jr_icmp_lt rfl (fun m2MDisIn => ?_) (fun m2MDisIn => ?_)
            · refine jr_ic rfl ?_
              refine jr_zret rfl rfl rfl (Nat.zero_le _) (Nat.zero_le _) ?_
              refine jr_if_eq rfl (fun _ => ?_) (fun z => absurd (by decide) z)
              refine jr_ic rfl ?_
              refine jr_iret rfl rfl (Nat.zero_le _) (Nat.zero_le _) ?_
              first
                | exact ⟨rfl, hRel0⟩
                | (exfalso; omega)
                | (exfalso; simp (disch := omega) only [Int32.lt_iff_toInt_lt, Int32.le_iff_toInt_le, ← Int32.toInt_inj, Int32.reduceToInt, nI_toInt] at c1RephasMonth m2MDisIn; done)
                | (exfalso; simp (disch := omega) only [Int32.lt_iff_toInt_lt, Int32.le_iff_toInt_le, ← Int32.toInt_inj, Int32.reduceToInt, nI_toInt] at c1RephasMonth m2MDisIn; omega)
            · refine jr_iload rfl rfl ?_
              refine jr_iload rfl rfl ?_
              refine jr_icmp_gt rfl (fun m5MDisIn => ?_) (fun m5MDisIn => ?_)
              · refine jr_ic rfl ?_
                refine jr_zret rfl rfl rfl (Nat.zero_le _) (Nat.zero_le _) ?_
                refine jr_if_eq rfl (fun _ => ?_) (fun z => absurd (by decide) z)
                refine jr_ic rfl ?_
                refine jr_iret rfl rfl (Nat.zero_le _) (Nat.zero_le _) ?_
                first
                  | exact ⟨rfl, hRel0⟩
                  | (exfalso; omega)
                  | (exfalso; simp (disch := omega) only [Int32.lt_iff_toInt_lt, Int32.le_iff_toInt_le, ← Int32.toInt_inj, Int32.reduceToInt, nI_toInt] at c1RephasMonth m2MDisIn m5MDisIn; done)
                  | (exfalso; simp (disch := omega) only [Int32.lt_iff_toInt_lt, Int32.le_iff_toInt_le, ← Int32.toInt_inj, Int32.reduceToInt, nI_toInt] at c1RephasMonth m2MDisIn m5MDisIn; omega)
              · refine jr_ic rfl ?_
                refine jr_goto rfl ?_
                refine jr_zret rfl rfl rfl (Nat.zero_le _) (Nat.zero_le _) ?_
                refine jr_if_eq rfl (fun z => absurd z (by decide)) (fun _ => ?_)
                refine jr_iload rfl rfl ?_
                refine jr_ic rfl ?_
                refine jr_aload rfl rfl ?_
                refine jr_getR rfl rfl rfl rfl (Or.inl rfl) ?_
                refine jr_aload rfl rfl ?_
                refine jr_getI rfl rfl ?_
                refine jr_iald (len := 2) rfl rfl hw.1 (by omega) ?_
                refine jr_ic rfl ?_
                refine jr_isub rfl ?_
                refine jr_cs3 (mc' := 0) (ms' := 0) rfl jm_MD_isIn_n jm_MD_isIn_f rfl rfl rfl rfl rfl (Nat.zero_le _) (Nat.zero_le _) ?_
                show jx_W (jm_MD_isIn, _, _, _, _, _, _) _ 0 0 0 [some _, some _, some _] [] _
                refine jr_iload rfl rfl ?_
                refine jr_iload rfl rfl ?_
                refine jr_icmp_lt rfl (fun m2MDisIn_2 => ?_) (fun m2MDisIn_2 => ?_)
                · refine jr_ic rfl ?_
                  refine jr_zret rfl rfl rfl (Nat.zero_le _) (Nat.zero_le _) ?_
                  refine jr_if_eq rfl (fun _ => ?_) (fun z => absurd (by decide) z)
                  refine jr_ic rfl ?_
                  refine jr_iret rfl rfl (Nat.zero_le _) (Nat.zero_le _) ?_
                  first
                    | exact ⟨rfl, hRel0⟩
                    | (exfalso; omega)
                    | (exfalso; simp (disch := omega) only [Int32.lt_iff_toInt_lt, Int32.le_iff_toInt_le, ← Int32.toInt_inj, Int32.reduceToInt, nI_toInt] at c1RephasMonth m2MDisIn m5MDisIn m2MDisIn_2; done)
                    | (exfalso; simp (disch := omega) only [Int32.lt_iff_toInt_lt, Int32.le_iff_toInt_le, ← Int32.toInt_inj, Int32.reduceToInt, nI_toInt] at c1RephasMonth m2MDisIn m5MDisIn m2MDisIn_2; omega)
                · refine jr_iload rfl rfl ?_
                  refine jr_iload rfl rfl ?_
                  refine jr_icmp_gt rfl (fun m5MDisIn_2 => ?_) (fun m5MDisIn_2 => ?_)
                  · refine jr_ic rfl ?_
                    refine jr_zret rfl rfl rfl (Nat.zero_le _) (Nat.zero_le _) ?_
                    refine jr_if_eq rfl (fun _ => ?_) (fun z => absurd (by decide) z)
                    refine jr_ic rfl ?_
                    refine jr_iret rfl rfl (Nat.zero_le _) (Nat.zero_le _) ?_
                    first
                      | exact ⟨rfl, hRel0⟩
                      | (exfalso; omega)
                      | (exfalso; simp (disch := omega) only [Int32.lt_iff_toInt_lt, Int32.le_iff_toInt_le, ← Int32.toInt_inj, Int32.reduceToInt, nI_toInt] at c1RephasMonth m2MDisIn m5MDisIn m2MDisIn_2 m5MDisIn_2; done)
                      | (exfalso; simp (disch := omega) only [Int32.lt_iff_toInt_lt, Int32.le_iff_toInt_le, ← Int32.toInt_inj, Int32.reduceToInt, nI_toInt] at c1RephasMonth m2MDisIn m5MDisIn m2MDisIn_2 m5MDisIn_2; omega)
                  · refine jr_ic rfl ?_
                    refine jr_goto rfl ?_
                    refine jr_zret rfl rfl rfl (Nat.zero_le _) (Nat.zero_le _) ?_
                    refine jr_if_eq rfl (fun z => absurd z (by decide)) (fun _ => ?_)
                    refine jr_iload rfl rfl ?_
                    refine jr_ic rfl ?_
                    refine jr_ic rfl ?_
                    refine jr_cs3 (mc' := 0) (ms' := 0) rfl jm_MD_isIn_n jm_MD_isIn_f rfl rfl rfl rfl rfl (Nat.zero_le _) (Nat.zero_le _) ?_
                    show jx_W (jm_MD_isIn, _, _, _, _, _, _) _ 0 0 0 [some _, some _, some _] [] _
                    refine jr_iload rfl rfl ?_
                    refine jr_iload rfl rfl ?_
                    refine jr_icmp_lt rfl (fun m2MDisIn_3 => ?_) (fun m2MDisIn_3 => ?_)
                    · refine jr_ic rfl ?_
                      refine jr_zret rfl rfl rfl (Nat.zero_le _) (Nat.zero_le _) ?_
                      refine jr_if_eq rfl (fun _ => ?_) (fun z => absurd (by decide) z)
                      refine jr_ic rfl ?_
                      refine jr_iret rfl rfl (Nat.zero_le _) (Nat.zero_le _) ?_
                      first
                        | exact ⟨rfl, hRel0⟩
                        | (exfalso; omega)
                        | (exfalso; simp (disch := omega) only [Int32.lt_iff_toInt_lt, Int32.le_iff_toInt_le, ← Int32.toInt_inj, Int32.reduceToInt, nI_toInt] at c1RephasMonth m2MDisIn m5MDisIn m2MDisIn_2 m5MDisIn_2 m2MDisIn_3; done)
                        | (exfalso; simp (disch := omega) only [Int32.lt_iff_toInt_lt, Int32.le_iff_toInt_le, ← Int32.toInt_inj, Int32.reduceToInt, nI_toInt] at c1RephasMonth m2MDisIn m5MDisIn m2MDisIn_2 m5MDisIn_2 m2MDisIn_3; omega)
                    · refine jr_iload rfl rfl ?_
                      refine jr_iload rfl rfl ?_
                      refine jr_icmp_gt rfl (fun m5MDisIn_3 => ?_) (fun m5MDisIn_3 => ?_)
                      · refine jr_ic rfl ?_
                        refine jr_zret rfl rfl rfl (Nat.zero_le _) (Nat.zero_le _) ?_
                        refine jr_if_eq rfl (fun _ => ?_) (fun z => absurd (by decide) z)
                        refine jr_ic rfl ?_
                        refine jr_iret rfl rfl (Nat.zero_le _) (Nat.zero_le _) ?_
                        first
                          | exact ⟨rfl, hRel0⟩
                          | (exfalso; omega)
                          | (exfalso; simp (disch := omega) only [Int32.lt_iff_toInt_lt, Int32.le_iff_toInt_le, ← Int32.toInt_inj, Int32.reduceToInt, nI_toInt] at c1RephasMonth m2MDisIn m5MDisIn m2MDisIn_2 m5MDisIn_2 m2MDisIn_3 m5MDisIn_3; done)
                          | (exfalso; simp (disch := omega) only [Int32.lt_iff_toInt_lt, Int32.le_iff_toInt_le, ← Int32.toInt_inj, Int32.reduceToInt, nI_toInt] at c1RephasMonth m2MDisIn m5MDisIn m2MDisIn_2 m5MDisIn_2 m2MDisIn_3 m5MDisIn_3; omega)
                      · refine jr_ic rfl ?_
                        refine jr_goto rfl ?_
                        refine jr_zret rfl rfl rfl (Nat.zero_le _) (Nat.zero_le _) ?_
                        refine jr_if_eq rfl (fun z => absurd z (by decide)) (fun _ => ?_)
                        refine jr_aload rfl rfl ?_
                        refine jr_getI rfl rfl ?_
                        refine jr_ic rfl ?_
                        refine jr_icmp_ne rfl (fun m24 => ?_) (fun m24 => ?_)
                        · refine jr_aload rfl rfl ?_
                          refine jr_getR rfl rfl rfl rfl (Or.inl rfl) ?_
                          refine jr_aload rfl rfl ?_
                          refine jr_getI rfl rfl ?_
                          refine jr_iload rfl rfl ?_
                          refine jr_iast (len := 30) rfl rfl e3 (by omega) ?_
                          refine jr_aload rfl rfl ?_
                          refine jr_getR rfl rfl rfl rfl (Or.inl rfl) ?_
                          refine jr_aload rfl rfl ?_
                          refine jr_getI rfl rfl ?_
                          refine jr_iload rfl rfl ?_
                          refine jr_iast (len := 30) rfl rfl e3 (by omega) ?_
                          refine jr_aload rfl rfl ?_
                          refine jr_getR rfl rfl rfl rfl (Or.inl rfl) ?_
                          refine jr_aload rfl rfl ?_
                          refine jr_getI rfl rfl ?_
                          refine jr_iload rfl rfl ?_
                          refine jr_iast (len := 30) rfl rfl e3 (by omega) ?_
                          refine jr_aload rfl rfl ?_
                          refine jr_getR rfl rfl rfl rfl (Or.inl rfl) ?_
                          refine jr_aload rfl rfl ?_
                          refine jr_getI rfl rfl ?_
                          refine jr_aload rfl rfl ?_
                          refine jr_getI rfl rfl ?_
                          refine jr_iast (len := 30) rfl rfl e3 (by omega) ?_
                          refine jr_aload rfl rfl ?_
                          refine jr_getR rfl rfl rfl rfl (Or.inl rfl) ?_
                          refine jr_aload rfl rfl ?_
                          refine jr_getI rfl rfl ?_
                          refine jr_ic rfl ?_
                          refine jr_iast (len := 30) rfl rfl e3 (by omega) ?_
                          refine jr_aload rfl rfl ?_
                          refine jr_dup_r rfl ?_
                          refine jr_getI rfl rfl ?_
                          refine jr_ic rfl ?_
                          refine jr_iadd rfl ?_
                          refine jr_putI rfl rfl ?_
                          refine jr_aload rfl rfl ?_
                          refine jr_getI rfl rfl ?_
                          refine jr_ic rfl ?_
                          refine jr_isub rfl ?_
                          refine jr_iret rfl rfl (Nat.zero_le _) (Nat.zero_le _) ?_
                          first
                            | exact ⟨rfl, hRel0⟩
                            | (exfalso; omega)
                            | (exfalso; simp (disch := omega) only [Int32.lt_iff_toInt_lt, Int32.le_iff_toInt_le, ← Int32.toInt_inj, Int32.reduceToInt, nI_toInt] at c1RephasMonth m2MDisIn m5MDisIn m2MDisIn_2 m5MDisIn_2 m2MDisIn_3 m5MDisIn_3 m24; done)
                            | (exfalso; simp (disch := omega) only [Int32.lt_iff_toInt_lt, Int32.le_iff_toInt_le, ← Int32.toInt_inj, Int32.reduceToInt, nI_toInt] at c1RephasMonth m2MDisIn m5MDisIn m2MDisIn_2 m5MDisIn_2 m2MDisIn_3 m5MDisIn_3 m24; omega)
                        · refine jr_ic rfl ?_
                          refine jr_iret rfl rfl (Nat.zero_le _) (Nat.zero_le _) ?_
                          first
                            | exact ⟨rfl, hRel0⟩
                            | (exfalso; omega)
                            | (exfalso; simp (disch := omega) only [Int32.lt_iff_toInt_lt, Int32.le_iff_toInt_le, ← Int32.toInt_inj, Int32.reduceToInt, nI_toInt] at c1RephasMonth m2MDisIn m5MDisIn m2MDisIn_2 m5MDisIn_2 m2MDisIn_3 m5MDisIn_3 m24; done)
                            | (exfalso; simp (disch := omega) only [Int32.lt_iff_toInt_lt, Int32.le_iff_toInt_le, ← Int32.toInt_inj, Int32.reduceToInt, nI_toInt] at c1RephasMonth m2MDisIn m5MDisIn m2MDisIn_2 m5MDisIn_2 m2MDisIn_3 m5MDisIn_3 m24; omega)
          · refine jr_iload rfl rfl ?_
            refine jr_aload rfl rfl ?_
            refine jr_getI rfl rfl ?_
            refine jr_icmp_ge rfl (fun c5RephasMonth => ?_) (fun c5RephasMonth => ?_)
            · refine jr_ic rfl ?_
              refine jr_zret rfl rfl rfl (Nat.zero_le _) (Nat.zero_le _) ?_
              refine jr_if_ne rfl (fun z => absurd (by decide) z) (fun _ => ?_)
              refine jr_ic rfl ?_
              refine jr_iret rfl rfl (Nat.zero_le _) (Nat.zero_le _) ?_
              show jx_W (jm_MD_ledger, d + 40, 0, 0, false, 1, _) _ 0 0 0 [some _, some _, some _, some _] [] _
              refine jr_iload rfl rfl ?_
              refine jr_ic rfl ?_
              refine jr_ic rfl ?_
              refine jr_cs3 (mc' := 0) (ms' := 0) rfl jm_MD_isIn_n jm_MD_isIn_f rfl rfl rfl rfl rfl (Nat.zero_le _) (Nat.zero_le _) ?_
              show jx_W (jm_MD_isIn, _, _, _, _, _, _) _ 0 0 0 [some _, some _, some _] [] _
              refine jr_iload rfl rfl ?_
              refine jr_iload rfl rfl ?_
              refine jr_icmp_lt rfl (fun m2MDisIn => ?_) (fun m2MDisIn => ?_)
              · refine jr_ic rfl ?_
                refine jr_zret rfl rfl rfl (Nat.zero_le _) (Nat.zero_le _) ?_
                refine jr_if_eq rfl (fun _ => ?_) (fun z => absurd (by decide) z)
                refine jr_ic rfl ?_
                refine jr_iret rfl rfl (Nat.zero_le _) (Nat.zero_le _) ?_
                first
                  | exact ⟨rfl, hRel0⟩
                  | (exfalso; omega)
                  | (exfalso; simp (disch := omega) only [Int32.lt_iff_toInt_lt, Int32.le_iff_toInt_le, ← Int32.toInt_inj, Int32.reduceToInt, nI_toInt] at c1RephasMonth c5RephasMonth m2MDisIn; done)
                  | (exfalso; simp (disch := omega) only [Int32.lt_iff_toInt_lt, Int32.le_iff_toInt_le, ← Int32.toInt_inj, Int32.reduceToInt, nI_toInt] at c1RephasMonth c5RephasMonth m2MDisIn; omega)
              · refine jr_iload rfl rfl ?_
                refine jr_iload rfl rfl ?_
                refine jr_icmp_gt rfl (fun m5MDisIn => ?_) (fun m5MDisIn => ?_)
                · refine jr_ic rfl ?_
                  refine jr_zret rfl rfl rfl (Nat.zero_le _) (Nat.zero_le _) ?_
                  refine jr_if_eq rfl (fun _ => ?_) (fun z => absurd (by decide) z)
                  refine jr_ic rfl ?_
                  refine jr_iret rfl rfl (Nat.zero_le _) (Nat.zero_le _) ?_
                  first
                    | exact ⟨rfl, hRel0⟩
                    | (exfalso; omega)
                    | (exfalso; simp (disch := omega) only [Int32.lt_iff_toInt_lt, Int32.le_iff_toInt_le, ← Int32.toInt_inj, Int32.reduceToInt, nI_toInt] at c1RephasMonth c5RephasMonth m2MDisIn m5MDisIn; done)
                    | (exfalso; simp (disch := omega) only [Int32.lt_iff_toInt_lt, Int32.le_iff_toInt_le, ← Int32.toInt_inj, Int32.reduceToInt, nI_toInt] at c1RephasMonth c5RephasMonth m2MDisIn m5MDisIn; omega)
                · refine jr_ic rfl ?_
                  refine jr_goto rfl ?_
                  refine jr_zret rfl rfl rfl (Nat.zero_le _) (Nat.zero_le _) ?_
                  refine jr_if_eq rfl (fun z => absurd z (by decide)) (fun _ => ?_)
                  refine jr_iload rfl rfl ?_
                  refine jr_ic rfl ?_
                  refine jr_aload rfl rfl ?_
                  refine jr_getR rfl rfl rfl rfl (Or.inl rfl) ?_
                  refine jr_aload rfl rfl ?_
                  refine jr_getI rfl rfl ?_
                  refine jr_iald (len := 2) rfl rfl hw.1 (by omega) ?_
                  refine jr_ic rfl ?_
                  refine jr_isub rfl ?_
                  refine jr_cs3 (mc' := 0) (ms' := 0) rfl jm_MD_isIn_n jm_MD_isIn_f rfl rfl rfl rfl rfl (Nat.zero_le _) (Nat.zero_le _) ?_
                  show jx_W (jm_MD_isIn, _, _, _, _, _, _) _ 0 0 0 [some _, some _, some _] [] _
                  refine jr_iload rfl rfl ?_
                  refine jr_iload rfl rfl ?_
                  refine jr_icmp_lt rfl (fun m2MDisIn_2 => ?_) (fun m2MDisIn_2 => ?_)
                  · refine jr_ic rfl ?_
                    refine jr_zret rfl rfl rfl (Nat.zero_le _) (Nat.zero_le _) ?_
                    refine jr_if_eq rfl (fun _ => ?_) (fun z => absurd (by decide) z)
                    refine jr_ic rfl ?_
                    refine jr_iret rfl rfl (Nat.zero_le _) (Nat.zero_le _) ?_
                    first
                      | exact ⟨rfl, hRel0⟩
                      | (exfalso; omega)
                      | (exfalso; simp (disch := omega) only [Int32.lt_iff_toInt_lt, Int32.le_iff_toInt_le, ← Int32.toInt_inj, Int32.reduceToInt, nI_toInt] at c1RephasMonth c5RephasMonth m2MDisIn m5MDisIn m2MDisIn_2; done)
                      | (exfalso; simp (disch := omega) only [Int32.lt_iff_toInt_lt, Int32.le_iff_toInt_le, ← Int32.toInt_inj, Int32.reduceToInt, nI_toInt] at c1RephasMonth c5RephasMonth m2MDisIn m5MDisIn m2MDisIn_2; omega)
                  · refine jr_iload rfl rfl ?_
                    refine jr_iload rfl rfl ?_
                    refine jr_icmp_gt rfl (fun m5MDisIn_2 => ?_) (fun m5MDisIn_2 => ?_)
                    · refine jr_ic rfl ?_
                      refine jr_zret rfl rfl rfl (Nat.zero_le _) (Nat.zero_le _) ?_
                      refine jr_if_eq rfl (fun _ => ?_) (fun z => absurd (by decide) z)
                      refine jr_ic rfl ?_
                      refine jr_iret rfl rfl (Nat.zero_le _) (Nat.zero_le _) ?_
                      first
                        | exact ⟨rfl, hRel0⟩
                        | (exfalso; omega)
                        | (exfalso; simp (disch := omega) only [Int32.lt_iff_toInt_lt, Int32.le_iff_toInt_le, ← Int32.toInt_inj, Int32.reduceToInt, nI_toInt] at c1RephasMonth c5RephasMonth m2MDisIn m5MDisIn m2MDisIn_2 m5MDisIn_2; done)
                        | (exfalso; simp (disch := omega) only [Int32.lt_iff_toInt_lt, Int32.le_iff_toInt_le, ← Int32.toInt_inj, Int32.reduceToInt, nI_toInt] at c1RephasMonth c5RephasMonth m2MDisIn m5MDisIn m2MDisIn_2 m5MDisIn_2; omega)
                    · refine jr_ic rfl ?_
                      refine jr_goto rfl ?_
                      refine jr_zret rfl rfl rfl (Nat.zero_le _) (Nat.zero_le _) ?_
                      refine jr_if_eq rfl (fun z => absurd z (by decide)) (fun _ => ?_)
                      refine jr_iload rfl rfl ?_
                      refine jr_ic rfl ?_
                      refine jr_ic rfl ?_
                      refine jr_cs3 (mc' := 0) (ms' := 0) rfl jm_MD_isIn_n jm_MD_isIn_f rfl rfl rfl rfl rfl (Nat.zero_le _) (Nat.zero_le _) ?_
                      show jx_W (jm_MD_isIn, _, _, _, _, _, _) _ 0 0 0 [some _, some _, some _] [] _
                      refine jr_iload rfl rfl ?_
                      refine jr_iload rfl rfl ?_
                      refine jr_icmp_lt rfl (fun m2MDisIn_3 => ?_) (fun m2MDisIn_3 => ?_)
                      · refine jr_ic rfl ?_
                        refine jr_zret rfl rfl rfl (Nat.zero_le _) (Nat.zero_le _) ?_
                        refine jr_if_eq rfl (fun _ => ?_) (fun z => absurd (by decide) z)
                        refine jr_ic rfl ?_
                        refine jr_iret rfl rfl (Nat.zero_le _) (Nat.zero_le _) ?_
                        first
                          | exact ⟨rfl, hRel0⟩
                          | (exfalso; omega)
                          | (exfalso; simp (disch := omega) only [Int32.lt_iff_toInt_lt, Int32.le_iff_toInt_le, ← Int32.toInt_inj, Int32.reduceToInt, nI_toInt] at c1RephasMonth c5RephasMonth m2MDisIn m5MDisIn m2MDisIn_2 m5MDisIn_2 m2MDisIn_3; done)
                          | (exfalso; simp (disch := omega) only [Int32.lt_iff_toInt_lt, Int32.le_iff_toInt_le, ← Int32.toInt_inj, Int32.reduceToInt, nI_toInt] at c1RephasMonth c5RephasMonth m2MDisIn m5MDisIn m2MDisIn_2 m5MDisIn_2 m2MDisIn_3; omega)
                      · refine jr_iload rfl rfl ?_
                        refine jr_iload rfl rfl ?_
                        refine jr_icmp_gt rfl (fun m5MDisIn_3 => ?_) (fun m5MDisIn_3 => ?_)
                        · refine jr_ic rfl ?_
                          refine jr_zret rfl rfl rfl (Nat.zero_le _) (Nat.zero_le _) ?_
                          refine jr_if_eq rfl (fun _ => ?_) (fun z => absurd (by decide) z)
                          refine jr_ic rfl ?_
                          refine jr_iret rfl rfl (Nat.zero_le _) (Nat.zero_le _) ?_
                          first
                            | exact ⟨rfl, hRel0⟩
                            | (exfalso; omega)
                            | (exfalso; simp (disch := omega) only [Int32.lt_iff_toInt_lt, Int32.le_iff_toInt_le, ← Int32.toInt_inj, Int32.reduceToInt, nI_toInt] at c1RephasMonth c5RephasMonth m2MDisIn m5MDisIn m2MDisIn_2 m5MDisIn_2 m2MDisIn_3 m5MDisIn_3; done)
                            | (exfalso; simp (disch := omega) only [Int32.lt_iff_toInt_lt, Int32.le_iff_toInt_le, ← Int32.toInt_inj, Int32.reduceToInt, nI_toInt] at c1RephasMonth c5RephasMonth m2MDisIn m5MDisIn m2MDisIn_2 m5MDisIn_2 m2MDisIn_3 m5MDisIn_3; omega)
                        · refine jr_ic rfl ?_
                          refine jr_goto rfl ?_
                          refine jr_zret rfl rfl rfl (Nat.zero_le _) (Nat.zero_le _) ?_
                          refine jr_if_eq rfl (fun z => absurd z (by decide)) (fun _ => ?_)
                          refine jr_aload rfl rfl ?_
                          refine jr_getI rfl rfl ?_
                          refine jr_ic rfl ?_
                          refine jr_icmp_ne rfl (fun m24 => ?_) (fun m24 => ?_)
                          · refine jr_aload rfl rfl ?_
                            refine jr_getR rfl rfl rfl rfl (Or.inl rfl) ?_
                            refine jr_aload rfl rfl ?_
                            refine jr_getI rfl rfl ?_
                            refine jr_iload rfl rfl ?_
                            refine jr_iast (len := 30) rfl rfl e3 (by omega) ?_
                            refine jr_aload rfl rfl ?_
                            refine jr_getR rfl rfl rfl rfl (Or.inl rfl) ?_
                            refine jr_aload rfl rfl ?_
                            refine jr_getI rfl rfl ?_
                            refine jr_iload rfl rfl ?_
                            refine jr_iast (len := 30) rfl rfl e3 (by omega) ?_
                            refine jr_aload rfl rfl ?_
                            refine jr_getR rfl rfl rfl rfl (Or.inl rfl) ?_
                            refine jr_aload rfl rfl ?_
                            refine jr_getI rfl rfl ?_
                            refine jr_iload rfl rfl ?_
                            refine jr_iast (len := 30) rfl rfl e3 (by omega) ?_
                            refine jr_aload rfl rfl ?_
                            refine jr_getR rfl rfl rfl rfl (Or.inl rfl) ?_
                            refine jr_aload rfl rfl ?_
                            refine jr_getI rfl rfl ?_
                            refine jr_aload rfl rfl ?_
                            refine jr_getI rfl rfl ?_
                            refine jr_iast (len := 30) rfl rfl e3 (by omega) ?_
                            refine jr_aload rfl rfl ?_
                            refine jr_getR rfl rfl rfl rfl (Or.inl rfl) ?_
                            refine jr_aload rfl rfl ?_
                            refine jr_getI rfl rfl ?_
                            refine jr_ic rfl ?_
                            refine jr_iast (len := 30) rfl rfl e3 (by omega) ?_
                            refine jr_aload rfl rfl ?_
                            refine jr_dup_r rfl ?_
                            refine jr_getI rfl rfl ?_
                            refine jr_ic rfl ?_
                            refine jr_iadd rfl ?_
                            refine jr_putI rfl rfl ?_
                            refine jr_aload rfl rfl ?_
                            refine jr_getI rfl rfl ?_
                            refine jr_ic rfl ?_
                            refine jr_isub rfl ?_
                            refine jr_iret rfl rfl (Nat.zero_le _) (Nat.zero_le _) ?_
                            first
                              | exact ⟨rfl, hRel0⟩
                              | (exfalso; omega)
                              | (exfalso; simp (disch := omega) only [Int32.lt_iff_toInt_lt, Int32.le_iff_toInt_le, ← Int32.toInt_inj, Int32.reduceToInt, nI_toInt] at c1RephasMonth c5RephasMonth m2MDisIn m5MDisIn m2MDisIn_2 m5MDisIn_2 m2MDisIn_3 m5MDisIn_3 m24; done)
                              | (exfalso; simp (disch := omega) only [Int32.lt_iff_toInt_lt, Int32.le_iff_toInt_le, ← Int32.toInt_inj, Int32.reduceToInt, nI_toInt] at c1RephasMonth c5RephasMonth m2MDisIn m5MDisIn m2MDisIn_2 m5MDisIn_2 m2MDisIn_3 m5MDisIn_3 m24; omega)
                          · refine jr_ic rfl ?_
                            refine jr_iret rfl rfl (Nat.zero_le _) (Nat.zero_le _) ?_
                            first
                              | exact ⟨rfl, hRel0⟩
                              | (exfalso; omega)
                              | (exfalso; simp (disch := omega) only [Int32.lt_iff_toInt_lt, Int32.le_iff_toInt_le, ← Int32.toInt_inj, Int32.reduceToInt, nI_toInt] at c1RephasMonth c5RephasMonth m2MDisIn m5MDisIn m2MDisIn_2 m5MDisIn_2 m2MDisIn_3 m5MDisIn_3 m24; done)
                              | (exfalso; simp (disch := omega) only [Int32.lt_iff_toInt_lt, Int32.le_iff_toInt_le, ← Int32.toInt_inj, Int32.reduceToInt, nI_toInt] at c1RephasMonth c5RephasMonth m2MDisIn m5MDisIn m2MDisIn_2 m5MDisIn_2 m2MDisIn_3 m5MDisIn_3 m24; omega)
            · refine jr_ic rfl ?_
              refine jr_goto rfl ?_
              refine jr_zret rfl rfl rfl (Nat.zero_le _) (Nat.zero_le _) ?_
              refine jr_if_ne rfl (fun _ => ?_) (fun z => absurd z (by decide))
              refine jr_aload rfl rfl ?_
              refine jr_getR rfl rfl rfl rfl (Or.inl rfl) ?_
              refine jr_iload rfl rfl ?_
              refine jr_iload rfl rfl ?_
              refine jr_iload rfl rfl ?_
              refine jr_aload rfl rfl ?_
              refine jr_getI rfl rfl ?_
              refine jr_cv4 (mc' := 0) (ms' := 0) rfl jm_Led_write_n jm_Led_write_f rfl rfl rfl rfl rfl rfl rfl (Nat.zero_le _) (Nat.zero_le _) ?_
              show jx_W (jm_Led_write, _, _, _, _, _, _) _ 0 0 0 [some _, some _, some _, some _, some _] [] _
              refine jr_iload rfl rfl ?_
              refine jr_if_lt rfl (fun c1Ledwrite => ?_) (fun c1Ledwrite => ?_)
              · refine jr_ic rfl ?_
                refine jr_iret rfl rfl (Nat.zero_le _) (Nat.zero_le _) ?_
                refine jr_iret rfl rfl (Nat.zero_le _) (Nat.zero_le _) ?_
                show jx_W (jm_MD_ledger, d + 40, 0, 0, false, 1, _) _ 0 0 0 [some _, some _, some _, some _] [] _
                refine jr_iload rfl rfl ?_
                refine jr_ic rfl ?_
                refine jr_ic rfl ?_
                refine jr_cs3 (mc' := 0) (ms' := 0) rfl jm_MD_isIn_n jm_MD_isIn_f rfl rfl rfl rfl rfl (Nat.zero_le _) (Nat.zero_le _) ?_
                show jx_W (jm_MD_isIn, _, _, _, _, _, _) _ 0 0 0 [some _, some _, some _] [] _
                refine jr_iload rfl rfl ?_
                refine jr_iload rfl rfl ?_
                refine jr_icmp_lt rfl (fun m2MDisIn => ?_) (fun m2MDisIn => ?_)
                · refine jr_ic rfl ?_
                  refine jr_zret rfl rfl rfl (Nat.zero_le _) (Nat.zero_le _) ?_
                  refine jr_if_eq rfl (fun _ => ?_) (fun z => absurd (by decide) z)
                  refine jr_ic rfl ?_
                  refine jr_iret rfl rfl (Nat.zero_le _) (Nat.zero_le _) ?_
                  first
                    | exact ⟨rfl, hRel0⟩
                    | (exfalso; omega)
                    | (exfalso; simp (disch := omega) only [Int32.lt_iff_toInt_lt, Int32.le_iff_toInt_le, ← Int32.toInt_inj, Int32.reduceToInt, nI_toInt] at c1RephasMonth c5RephasMonth c1Ledwrite m2MDisIn; done)
                    | (exfalso; simp (disch := omega) only [Int32.lt_iff_toInt_lt, Int32.le_iff_toInt_le, ← Int32.toInt_inj, Int32.reduceToInt, nI_toInt] at c1RephasMonth c5RephasMonth c1Ledwrite m2MDisIn; omega)
                · refine jr_iload rfl rfl ?_
                  refine jr_iload rfl rfl ?_
                  refine jr_icmp_gt rfl (fun m5MDisIn => ?_) (fun m5MDisIn => ?_)
                  · refine jr_ic rfl ?_
                    refine jr_zret rfl rfl rfl (Nat.zero_le _) (Nat.zero_le _) ?_
                    refine jr_if_eq rfl (fun _ => ?_) (fun z => absurd (by decide) z)
                    refine jr_ic rfl ?_
                    refine jr_iret rfl rfl (Nat.zero_le _) (Nat.zero_le _) ?_
                    first
                      | exact ⟨rfl, hRel0⟩
                      | (exfalso; omega)
                      | (exfalso; simp (disch := omega) only [Int32.lt_iff_toInt_lt, Int32.le_iff_toInt_le, ← Int32.toInt_inj, Int32.reduceToInt, nI_toInt] at c1RephasMonth c5RephasMonth c1Ledwrite m2MDisIn m5MDisIn; done)
                      | (exfalso; simp (disch := omega) only [Int32.lt_iff_toInt_lt, Int32.le_iff_toInt_le, ← Int32.toInt_inj, Int32.reduceToInt, nI_toInt] at c1RephasMonth c5RephasMonth c1Ledwrite m2MDisIn m5MDisIn; omega)
                  · refine jr_ic rfl ?_
                    refine jr_goto rfl ?_
                    refine jr_zret rfl rfl rfl (Nat.zero_le _) (Nat.zero_le _) ?_
                    refine jr_if_eq rfl (fun z => absurd z (by decide)) (fun _ => ?_)
                    refine jr_iload rfl rfl ?_
                    refine jr_ic rfl ?_
                    refine jr_aload rfl rfl ?_
                    refine jr_getR rfl rfl rfl rfl (Or.inl rfl) ?_
                    refine jr_aload rfl rfl ?_
                    refine jr_getI rfl rfl ?_
                    refine jr_iald (len := 2) rfl rfl hw.1 (by omega) ?_
                    refine jr_ic rfl ?_
                    refine jr_isub rfl ?_
                    refine jr_cs3 (mc' := 0) (ms' := 0) rfl jm_MD_isIn_n jm_MD_isIn_f rfl rfl rfl rfl rfl (Nat.zero_le _) (Nat.zero_le _) ?_
                    show jx_W (jm_MD_isIn, _, _, _, _, _, _) _ 0 0 0 [some _, some _, some _] [] _
                    refine jr_iload rfl rfl ?_
                    refine jr_iload rfl rfl ?_
                    refine jr_icmp_lt rfl (fun m2MDisIn_2 => ?_) (fun m2MDisIn_2 => ?_)
                    · refine jr_ic rfl ?_
                      refine jr_zret rfl rfl rfl (Nat.zero_le _) (Nat.zero_le _) ?_
                      refine jr_if_eq rfl (fun _ => ?_) (fun z => absurd (by decide) z)
                      refine jr_ic rfl ?_
                      refine jr_iret rfl rfl (Nat.zero_le _) (Nat.zero_le _) ?_
                      first
                        | exact ⟨rfl, hRel0⟩
                        | (exfalso; omega)
                        | (exfalso; simp (disch := omega) only [Int32.lt_iff_toInt_lt, Int32.le_iff_toInt_le, ← Int32.toInt_inj, Int32.reduceToInt, nI_toInt] at c1RephasMonth c5RephasMonth c1Ledwrite m2MDisIn m5MDisIn m2MDisIn_2; done)
                        | (exfalso; simp (disch := omega) only [Int32.lt_iff_toInt_lt, Int32.le_iff_toInt_le, ← Int32.toInt_inj, Int32.reduceToInt, nI_toInt] at c1RephasMonth c5RephasMonth c1Ledwrite m2MDisIn m5MDisIn m2MDisIn_2; omega)
                    · refine jr_iload rfl rfl ?_
                      refine jr_iload rfl rfl ?_
                      refine jr_icmp_gt rfl (fun m5MDisIn_2 => ?_) (fun m5MDisIn_2 => ?_)
                      · refine jr_ic rfl ?_
                        refine jr_zret rfl rfl rfl (Nat.zero_le _) (Nat.zero_le _) ?_
                        refine jr_if_eq rfl (fun _ => ?_) (fun z => absurd (by decide) z)
                        refine jr_ic rfl ?_
                        refine jr_iret rfl rfl (Nat.zero_le _) (Nat.zero_le _) ?_
                        first
                          | exact ⟨rfl, hRel0⟩
                          | (exfalso; omega)
                          | (exfalso; simp (disch := omega) only [Int32.lt_iff_toInt_lt, Int32.le_iff_toInt_le, ← Int32.toInt_inj, Int32.reduceToInt, nI_toInt] at c1RephasMonth c5RephasMonth c1Ledwrite m2MDisIn m5MDisIn m2MDisIn_2 m5MDisIn_2; done)
                          | (exfalso; simp (disch := omega) only [Int32.lt_iff_toInt_lt, Int32.le_iff_toInt_le, ← Int32.toInt_inj, Int32.reduceToInt, nI_toInt] at c1RephasMonth c5RephasMonth c1Ledwrite m2MDisIn m5MDisIn m2MDisIn_2 m5MDisIn_2; omega)
                      · refine jr_ic rfl ?_
                        refine jr_goto rfl ?_
                        refine jr_zret rfl rfl rfl (Nat.zero_le _) (Nat.zero_le _) ?_
                        refine jr_if_eq rfl (fun z => absurd z (by decide)) (fun _ => ?_)
                        refine jr_iload rfl rfl ?_
                        refine jr_ic rfl ?_
                        refine jr_ic rfl ?_
                        refine jr_cs3 (mc' := 0) (ms' := 0) rfl jm_MD_isIn_n jm_MD_isIn_f rfl rfl rfl rfl rfl (Nat.zero_le _) (Nat.zero_le _) ?_
                        show jx_W (jm_MD_isIn, _, _, _, _, _, _) _ 0 0 0 [some _, some _, some _] [] _
                        refine jr_iload rfl rfl ?_
                        refine jr_iload rfl rfl ?_
                        refine jr_icmp_lt rfl (fun m2MDisIn_3 => ?_) (fun m2MDisIn_3 => ?_)
                        · refine jr_ic rfl ?_
                          refine jr_zret rfl rfl rfl (Nat.zero_le _) (Nat.zero_le _) ?_
                          refine jr_if_eq rfl (fun _ => ?_) (fun z => absurd (by decide) z)
                          refine jr_ic rfl ?_
                          refine jr_iret rfl rfl (Nat.zero_le _) (Nat.zero_le _) ?_
                          first
                            | exact ⟨rfl, hRel0⟩
                            | (exfalso; omega)
                            | (exfalso; simp (disch := omega) only [Int32.lt_iff_toInt_lt, Int32.le_iff_toInt_le, ← Int32.toInt_inj, Int32.reduceToInt, nI_toInt] at c1RephasMonth c5RephasMonth c1Ledwrite m2MDisIn m5MDisIn m2MDisIn_2 m5MDisIn_2 m2MDisIn_3; done)
                            | (exfalso; simp (disch := omega) only [Int32.lt_iff_toInt_lt, Int32.le_iff_toInt_le, ← Int32.toInt_inj, Int32.reduceToInt, nI_toInt] at c1RephasMonth c5RephasMonth c1Ledwrite m2MDisIn m5MDisIn m2MDisIn_2 m5MDisIn_2 m2MDisIn_3; omega)
                        · refine jr_iload rfl rfl ?_
                          refine jr_iload rfl rfl ?_
                          refine jr_icmp_gt rfl (fun m5MDisIn_3 => ?_) (fun m5MDisIn_3 => ?_)
                          · refine jr_ic rfl ?_
                            refine jr_zret rfl rfl rfl (Nat.zero_le _) (Nat.zero_le _) ?_
                            refine jr_if_eq rfl (fun _ => ?_) (fun z => absurd (by decide) z)
                            refine jr_ic rfl ?_
                            refine jr_iret rfl rfl (Nat.zero_le _) (Nat.zero_le _) ?_
                            first
                              | exact ⟨rfl, hRel0⟩
                              | (exfalso; omega)
                              | (exfalso; simp (disch := omega) only [Int32.lt_iff_toInt_lt, Int32.le_iff_toInt_le, ← Int32.toInt_inj, Int32.reduceToInt, nI_toInt] at c1RephasMonth c5RephasMonth c1Ledwrite m2MDisIn m5MDisIn m2MDisIn_2 m5MDisIn_2 m2MDisIn_3 m5MDisIn_3; done)
                              | (exfalso; simp (disch := omega) only [Int32.lt_iff_toInt_lt, Int32.le_iff_toInt_le, ← Int32.toInt_inj, Int32.reduceToInt, nI_toInt] at c1RephasMonth c5RephasMonth c1Ledwrite m2MDisIn m5MDisIn m2MDisIn_2 m5MDisIn_2 m2MDisIn_3 m5MDisIn_3; omega)
                          · refine jr_ic rfl ?_
                            refine jr_goto rfl ?_
                            refine jr_zret rfl rfl rfl (Nat.zero_le _) (Nat.zero_le _) ?_
                            refine jr_if_eq rfl (fun z => absurd z (by decide)) (fun _ => ?_)
                            refine jr_aload rfl rfl ?_
                            refine jr_getI rfl rfl ?_
                            refine jr_ic rfl ?_
                            refine jr_icmp_ne rfl (fun m24 => ?_) (fun m24 => ?_)
                            · refine jr_aload rfl rfl ?_
                              refine jr_getR rfl rfl rfl rfl (Or.inl rfl) ?_
                              refine jr_aload rfl rfl ?_
                              refine jr_getI rfl rfl ?_
                              refine jr_iload rfl rfl ?_
                              refine jr_iast (len := 30) rfl rfl e3 (by omega) ?_
                              refine jr_aload rfl rfl ?_
                              refine jr_getR rfl rfl rfl rfl (Or.inl rfl) ?_
                              refine jr_aload rfl rfl ?_
                              refine jr_getI rfl rfl ?_
                              refine jr_iload rfl rfl ?_
                              refine jr_iast (len := 30) rfl rfl e3 (by omega) ?_
                              refine jr_aload rfl rfl ?_
                              refine jr_getR rfl rfl rfl rfl (Or.inl rfl) ?_
                              refine jr_aload rfl rfl ?_
                              refine jr_getI rfl rfl ?_
                              refine jr_iload rfl rfl ?_
                              refine jr_iast (len := 30) rfl rfl e3 (by omega) ?_
                              refine jr_aload rfl rfl ?_
                              refine jr_getR rfl rfl rfl rfl (Or.inl rfl) ?_
                              refine jr_aload rfl rfl ?_
                              refine jr_getI rfl rfl ?_
                              refine jr_aload rfl rfl ?_
                              refine jr_getI rfl rfl ?_
                              refine jr_iast (len := 30) rfl rfl e3 (by omega) ?_
                              refine jr_aload rfl rfl ?_
                              refine jr_getR rfl rfl rfl rfl (Or.inl rfl) ?_
                              refine jr_aload rfl rfl ?_
                              refine jr_getI rfl rfl ?_
                              refine jr_ic rfl ?_
                              refine jr_iast (len := 30) rfl rfl e3 (by omega) ?_
                              refine jr_aload rfl rfl ?_
                              refine jr_dup_r rfl ?_
                              refine jr_getI rfl rfl ?_
                              refine jr_ic rfl ?_
                              refine jr_iadd rfl ?_
                              refine jr_putI rfl rfl ?_
                              refine jr_aload rfl rfl ?_
                              refine jr_getI rfl rfl ?_
                              refine jr_ic rfl ?_
                              refine jr_isub rfl ?_
                              refine jr_iret rfl rfl (Nat.zero_le _) (Nat.zero_le _) ?_
                              first
                                | exact ⟨rfl, hRel0⟩
                                | (exfalso; omega)
                                | (exfalso; simp (disch := omega) only [Int32.lt_iff_toInt_lt, Int32.le_iff_toInt_le, ← Int32.toInt_inj, Int32.reduceToInt, nI_toInt] at c1RephasMonth c5RephasMonth c1Ledwrite m2MDisIn m5MDisIn m2MDisIn_2 m5MDisIn_2 m2MDisIn_3 m5MDisIn_3 m24; done)
                                | (exfalso; simp (disch := omega) only [Int32.lt_iff_toInt_lt, Int32.le_iff_toInt_le, ← Int32.toInt_inj, Int32.reduceToInt, nI_toInt] at c1RephasMonth c5RephasMonth c1Ledwrite m2MDisIn m5MDisIn m2MDisIn_2 m5MDisIn_2 m2MDisIn_3 m5MDisIn_3 m24; omega)
                            · refine jr_ic rfl ?_
                              refine jr_iret rfl rfl (Nat.zero_le _) (Nat.zero_le _) ?_
                              first
                                | exact ⟨rfl, hRel0⟩
                                | (exfalso; omega)
                                | (exfalso; simp (disch := omega) only [Int32.lt_iff_toInt_lt, Int32.le_iff_toInt_le, ← Int32.toInt_inj, Int32.reduceToInt, nI_toInt] at c1RephasMonth c5RephasMonth c1Ledwrite m2MDisIn m5MDisIn m2MDisIn_2 m5MDisIn_2 m2MDisIn_3 m5MDisIn_3 m24; done)
                                | (exfalso; simp (disch := omega) only [Int32.lt_iff_toInt_lt, Int32.le_iff_toInt_le, ← Int32.toInt_inj, Int32.reduceToInt, nI_toInt] at c1RephasMonth c5RephasMonth c1Ledwrite m2MDisIn m5MDisIn m2MDisIn_2 m5MDisIn_2 m2MDisIn_3 m5MDisIn_3 m24; omega)
              · refine jr_iload rfl rfl ?_
                refine jr_ic rfl ?_
                refine jr_icmp_gt rfl (fun c4Ledwrite => ?_) (fun c4Ledwrite => ?_)
                · refine jr_ic rfl ?_
                  refine jr_iret rfl rfl (Nat.zero_le _) (Nat.zero_le _) ?_
                  refine jr_iret rfl rfl (Nat.zero_le _) (Nat.zero_le _) ?_
                  show jx_W (jm_MD_ledger, d + 40, 0, 0, false, 1, _) _ 0 0 0 [some _, some _, some _, some _] [] _
                  refine jr_iload rfl rfl ?_
                  refine jr_ic rfl ?_
                  refine jr_ic rfl ?_
                  refine jr_cs3 (mc' := 0) (ms' := 0) rfl jm_MD_isIn_n jm_MD_isIn_f rfl rfl rfl rfl rfl (Nat.zero_le _) (Nat.zero_le _) ?_
                  show jx_W (jm_MD_isIn, _, _, _, _, _, _) _ 0 0 0 [some _, some _, some _] [] _
                  refine jr_iload rfl rfl ?_
                  refine jr_iload rfl rfl ?_
                  refine jr_icmp_lt rfl (fun m2MDisIn => ?_) (fun m2MDisIn => ?_)
                  · refine jr_ic rfl ?_
                    refine jr_zret rfl rfl rfl (Nat.zero_le _) (Nat.zero_le _) ?_
                    refine jr_if_eq rfl (fun _ => ?_) (fun z => absurd (by decide) z)
                    refine jr_ic rfl ?_
                    refine jr_iret rfl rfl (Nat.zero_le _) (Nat.zero_le _) ?_
                    first
                      | exact ⟨rfl, hRel0⟩
                      | (exfalso; omega)
                      | (exfalso; simp (disch := omega) only [Int32.lt_iff_toInt_lt, Int32.le_iff_toInt_le, ← Int32.toInt_inj, Int32.reduceToInt, nI_toInt] at c1RephasMonth c5RephasMonth c1Ledwrite c4Ledwrite m2MDisIn; done)
                      | (exfalso; simp (disch := omega) only [Int32.lt_iff_toInt_lt, Int32.le_iff_toInt_le, ← Int32.toInt_inj, Int32.reduceToInt, nI_toInt] at c1RephasMonth c5RephasMonth c1Ledwrite c4Ledwrite m2MDisIn; omega)
                  · refine jr_iload rfl rfl ?_
                    refine jr_iload rfl rfl ?_
                    refine jr_icmp_gt rfl (fun m5MDisIn => ?_) (fun m5MDisIn => ?_)
                    · refine jr_ic rfl ?_
                      refine jr_zret rfl rfl rfl (Nat.zero_le _) (Nat.zero_le _) ?_
                      refine jr_if_eq rfl (fun _ => ?_) (fun z => absurd (by decide) z)
                      refine jr_ic rfl ?_
                      refine jr_iret rfl rfl (Nat.zero_le _) (Nat.zero_le _) ?_
                      first
                        | exact ⟨rfl, hRel0⟩
                        | (exfalso; omega)
                        | (exfalso; simp (disch := omega) only [Int32.lt_iff_toInt_lt, Int32.le_iff_toInt_le, ← Int32.toInt_inj, Int32.reduceToInt, nI_toInt] at c1RephasMonth c5RephasMonth c1Ledwrite c4Ledwrite m2MDisIn m5MDisIn; done)
                        | (exfalso; simp (disch := omega) only [Int32.lt_iff_toInt_lt, Int32.le_iff_toInt_le, ← Int32.toInt_inj, Int32.reduceToInt, nI_toInt] at c1RephasMonth c5RephasMonth c1Ledwrite c4Ledwrite m2MDisIn m5MDisIn; omega)
                    · refine jr_ic rfl ?_
                      refine jr_goto rfl ?_
                      refine jr_zret rfl rfl rfl (Nat.zero_le _) (Nat.zero_le _) ?_
                      refine jr_if_eq rfl (fun z => absurd z (by decide)) (fun _ => ?_)
                      refine jr_iload rfl rfl ?_
                      refine jr_ic rfl ?_
                      refine jr_aload rfl rfl ?_
                      refine jr_getR rfl rfl rfl rfl (Or.inl rfl) ?_
                      refine jr_aload rfl rfl ?_
                      refine jr_getI rfl rfl ?_
                      refine jr_iald (len := 2) rfl rfl hw.1 (by omega) ?_
                      refine jr_ic rfl ?_
                      refine jr_isub rfl ?_
                      refine jr_cs3 (mc' := 0) (ms' := 0) rfl jm_MD_isIn_n jm_MD_isIn_f rfl rfl rfl rfl rfl (Nat.zero_le _) (Nat.zero_le _) ?_
                      show jx_W (jm_MD_isIn, _, _, _, _, _, _) _ 0 0 0 [some _, some _, some _] [] _
                      refine jr_iload rfl rfl ?_
                      refine jr_iload rfl rfl ?_
                      refine jr_icmp_lt rfl (fun m2MDisIn_2 => ?_) (fun m2MDisIn_2 => ?_)
                      · refine jr_ic rfl ?_
                        refine jr_zret rfl rfl rfl (Nat.zero_le _) (Nat.zero_le _) ?_
                        refine jr_if_eq rfl (fun _ => ?_) (fun z => absurd (by decide) z)
                        refine jr_ic rfl ?_
                        refine jr_iret rfl rfl (Nat.zero_le _) (Nat.zero_le _) ?_
                        first
                          | exact ⟨rfl, hRel0⟩
                          | (exfalso; omega)
                          | (exfalso; simp (disch := omega) only [Int32.lt_iff_toInt_lt, Int32.le_iff_toInt_le, ← Int32.toInt_inj, Int32.reduceToInt, nI_toInt] at c1RephasMonth c5RephasMonth c1Ledwrite c4Ledwrite m2MDisIn m5MDisIn m2MDisIn_2; done)
                          | (exfalso; simp (disch := omega) only [Int32.lt_iff_toInt_lt, Int32.le_iff_toInt_le, ← Int32.toInt_inj, Int32.reduceToInt, nI_toInt] at c1RephasMonth c5RephasMonth c1Ledwrite c4Ledwrite m2MDisIn m5MDisIn m2MDisIn_2; omega)
                      · refine jr_iload rfl rfl ?_
                        refine jr_iload rfl rfl ?_
                        refine jr_icmp_gt rfl (fun m5MDisIn_2 => ?_) (fun m5MDisIn_2 => ?_)
                        · refine jr_ic rfl ?_
                          refine jr_zret rfl rfl rfl (Nat.zero_le _) (Nat.zero_le _) ?_
                          refine jr_if_eq rfl (fun _ => ?_) (fun z => absurd (by decide) z)
                          refine jr_ic rfl ?_
                          refine jr_iret rfl rfl (Nat.zero_le _) (Nat.zero_le _) ?_
                          first
                            | exact ⟨rfl, hRel0⟩
                            | (exfalso; omega)
                            | (exfalso; simp (disch := omega) only [Int32.lt_iff_toInt_lt, Int32.le_iff_toInt_le, ← Int32.toInt_inj, Int32.reduceToInt, nI_toInt] at c1RephasMonth c5RephasMonth c1Ledwrite c4Ledwrite m2MDisIn m5MDisIn m2MDisIn_2 m5MDisIn_2; done)
                            | (exfalso; simp (disch := omega) only [Int32.lt_iff_toInt_lt, Int32.le_iff_toInt_le, ← Int32.toInt_inj, Int32.reduceToInt, nI_toInt] at c1RephasMonth c5RephasMonth c1Ledwrite c4Ledwrite m2MDisIn m5MDisIn m2MDisIn_2 m5MDisIn_2; omega)
                        · refine jr_ic rfl ?_
                          refine jr_goto rfl ?_
                          refine jr_zret rfl rfl rfl (Nat.zero_le _) (Nat.zero_le _) ?_
                          refine jr_if_eq rfl (fun z => absurd z (by decide)) (fun _ => ?_)
                          refine jr_iload rfl rfl ?_
                          refine jr_ic rfl ?_
                          refine jr_ic rfl ?_
                          refine jr_cs3 (mc' := 0) (ms' := 0) rfl jm_MD_isIn_n jm_MD_isIn_f rfl rfl rfl rfl rfl (Nat.zero_le _) (Nat.zero_le _) ?_
                          show jx_W (jm_MD_isIn, _, _, _, _, _, _) _ 0 0 0 [some _, some _, some _] [] _
                          refine jr_iload rfl rfl ?_
                          refine jr_iload rfl rfl ?_
                          refine jr_icmp_lt rfl (fun m2MDisIn_3 => ?_) (fun m2MDisIn_3 => ?_)
                          · refine jr_ic rfl ?_
                            refine jr_zret rfl rfl rfl (Nat.zero_le _) (Nat.zero_le _) ?_
                            refine jr_if_eq rfl (fun _ => ?_) (fun z => absurd (by decide) z)
                            refine jr_ic rfl ?_
                            refine jr_iret rfl rfl (Nat.zero_le _) (Nat.zero_le _) ?_
                            first
                              | exact ⟨rfl, hRel0⟩
                              | (exfalso; omega)
                              | (exfalso; simp (disch := omega) only [Int32.lt_iff_toInt_lt, Int32.le_iff_toInt_le, ← Int32.toInt_inj, Int32.reduceToInt, nI_toInt] at c1RephasMonth c5RephasMonth c1Ledwrite c4Ledwrite m2MDisIn m5MDisIn m2MDisIn_2 m5MDisIn_2 m2MDisIn_3; done)
                              | (exfalso; simp (disch := omega) only [Int32.lt_iff_toInt_lt, Int32.le_iff_toInt_le, ← Int32.toInt_inj, Int32.reduceToInt, nI_toInt] at c1RephasMonth c5RephasMonth c1Ledwrite c4Ledwrite m2MDisIn m5MDisIn m2MDisIn_2 m5MDisIn_2 m2MDisIn_3; omega)
                          · refine jr_iload rfl rfl ?_
                            refine jr_iload rfl rfl ?_
                            refine jr_icmp_gt rfl (fun m5MDisIn_3 => ?_) (fun m5MDisIn_3 => ?_)
                            · refine jr_ic rfl ?_
                              refine jr_zret rfl rfl rfl (Nat.zero_le _) (Nat.zero_le _) ?_
                              refine jr_if_eq rfl (fun _ => ?_) (fun z => absurd (by decide) z)
                              refine jr_ic rfl ?_
                              refine jr_iret rfl rfl (Nat.zero_le _) (Nat.zero_le _) ?_
                              first
                                | exact ⟨rfl, hRel0⟩
                                | (exfalso; omega)
                                | (exfalso; simp (disch := omega) only [Int32.lt_iff_toInt_lt, Int32.le_iff_toInt_le, ← Int32.toInt_inj, Int32.reduceToInt, nI_toInt] at c1RephasMonth c5RephasMonth c1Ledwrite c4Ledwrite m2MDisIn m5MDisIn m2MDisIn_2 m5MDisIn_2 m2MDisIn_3 m5MDisIn_3; done)
                                | (exfalso; simp (disch := omega) only [Int32.lt_iff_toInt_lt, Int32.le_iff_toInt_le, ← Int32.toInt_inj, Int32.reduceToInt, nI_toInt] at c1RephasMonth c5RephasMonth c1Ledwrite c4Ledwrite m2MDisIn m5MDisIn m2MDisIn_2 m5MDisIn_2 m2MDisIn_3 m5MDisIn_3; omega)
                            · refine jr_ic rfl ?_
                              refine jr_goto rfl ?_
                              refine jr_zret rfl rfl rfl (Nat.zero_le _) (Nat.zero_le _) ?_
                              refine jr_if_eq rfl (fun z => absurd z (by decide)) (fun _ => ?_)
                              refine jr_aload rfl rfl ?_
                              refine jr_getI rfl rfl ?_
                              refine jr_ic rfl ?_
                              refine jr_icmp_ne rfl (fun m24 => ?_) (fun m24 => ?_)
                              · refine jr_aload rfl rfl ?_
                                refine jr_getR rfl rfl rfl rfl (Or.inl rfl) ?_
                                refine jr_aload rfl rfl ?_
                                refine jr_getI rfl rfl ?_
                                refine jr_iload rfl rfl ?_
                                refine jr_iast (len := 30) rfl rfl e3 (by omega) ?_
                                refine jr_aload rfl rfl ?_
                                refine jr_getR rfl rfl rfl rfl (Or.inl rfl) ?_
                                refine jr_aload rfl rfl ?_
                                refine jr_getI rfl rfl ?_
                                refine jr_iload rfl rfl ?_
                                refine jr_iast (len := 30) rfl rfl e3 (by omega) ?_
                                refine jr_aload rfl rfl ?_
                                refine jr_getR rfl rfl rfl rfl (Or.inl rfl) ?_
                                refine jr_aload rfl rfl ?_
                                refine jr_getI rfl rfl ?_
                                refine jr_iload rfl rfl ?_
                                refine jr_iast (len := 30) rfl rfl e3 (by omega) ?_
                                refine jr_aload rfl rfl ?_
                                refine jr_getR rfl rfl rfl rfl (Or.inl rfl) ?_
                                refine jr_aload rfl rfl ?_
                                refine jr_getI rfl rfl ?_
                                refine jr_aload rfl rfl ?_
                                refine jr_getI rfl rfl ?_
                                refine jr_iast (len := 30) rfl rfl e3 (by omega) ?_
                                refine jr_aload rfl rfl ?_
                                refine jr_getR rfl rfl rfl rfl (Or.inl rfl) ?_
                                refine jr_aload rfl rfl ?_
                                refine jr_getI rfl rfl ?_
                                refine jr_ic rfl ?_
                                refine jr_iast (len := 30) rfl rfl e3 (by omega) ?_
                                refine jr_aload rfl rfl ?_
                                refine jr_dup_r rfl ?_
                                refine jr_getI rfl rfl ?_
                                refine jr_ic rfl ?_
                                refine jr_iadd rfl ?_
                                refine jr_putI rfl rfl ?_
                                refine jr_aload rfl rfl ?_
                                refine jr_getI rfl rfl ?_
                                refine jr_ic rfl ?_
                                refine jr_isub rfl ?_
                                refine jr_iret rfl rfl (Nat.zero_le _) (Nat.zero_le _) ?_
                                first
                                  | exact ⟨rfl, hRel0⟩
                                  | (exfalso; omega)
                                  | (exfalso; simp (disch := omega) only [Int32.lt_iff_toInt_lt, Int32.le_iff_toInt_le, ← Int32.toInt_inj, Int32.reduceToInt, nI_toInt] at c1RephasMonth c5RephasMonth c1Ledwrite c4Ledwrite m2MDisIn m5MDisIn m2MDisIn_2 m5MDisIn_2 m2MDisIn_3 m5MDisIn_3 m24; done)
                                  | (exfalso; simp (disch := omega) only [Int32.lt_iff_toInt_lt, Int32.le_iff_toInt_le, ← Int32.toInt_inj, Int32.reduceToInt, nI_toInt] at c1RephasMonth c5RephasMonth c1Ledwrite c4Ledwrite m2MDisIn m5MDisIn m2MDisIn_2 m5MDisIn_2 m2MDisIn_3 m5MDisIn_3 m24; omega)
                              · refine jr_ic rfl ?_
                                refine jr_iret rfl rfl (Nat.zero_le _) (Nat.zero_le _) ?_
                                first
                                  | exact ⟨rfl, hRel0⟩
                                  | (exfalso; omega)
                                  | (exfalso; simp (disch := omega) only [Int32.lt_iff_toInt_lt, Int32.le_iff_toInt_le, ← Int32.toInt_inj, Int32.reduceToInt, nI_toInt] at c1RephasMonth c5RephasMonth c1Ledwrite c4Ledwrite m2MDisIn m5MDisIn m2MDisIn_2 m5MDisIn_2 m2MDisIn_3 m5MDisIn_3 m24; done)
                                  | (exfalso; simp (disch := omega) only [Int32.lt_iff_toInt_lt, Int32.le_iff_toInt_le, ← Int32.toInt_inj, Int32.reduceToInt, nI_toInt] at c1RephasMonth c5RephasMonth c1Ledwrite c4Ledwrite m2MDisIn m5MDisIn m2MDisIn_2 m5MDisIn_2 m2MDisIn_3 m5MDisIn_3 m24; omega)
                · refine jr_iload rfl rfl ?_
                  refine jr_ic rfl ?_
                  refine jr_icmp_lt rfl (fun c7Ledwrite => ?_) (fun c7Ledwrite => ?_)
                  · refine jr_ic rfl ?_
                    refine jr_iret rfl rfl (Nat.zero_le _) (Nat.zero_le _) ?_
                    refine jr_iret rfl rfl (Nat.zero_le _) (Nat.zero_le _) ?_
                    show jx_W (jm_MD_ledger, d + 40, 0, 0, false, 1, _) _ 0 0 0 [some _, some _, some _, some _] [] _
                    refine jr_iload rfl rfl ?_
                    refine jr_ic rfl ?_
                    refine jr_ic rfl ?_
                    refine jr_cs3 (mc' := 0) (ms' := 0) rfl jm_MD_isIn_n jm_MD_isIn_f rfl rfl rfl rfl rfl (Nat.zero_le _) (Nat.zero_le _) ?_
                    show jx_W (jm_MD_isIn, _, _, _, _, _, _) _ 0 0 0 [some _, some _, some _] [] _
                    refine jr_iload rfl rfl ?_
                    refine jr_iload rfl rfl ?_
                    refine jr_icmp_lt rfl (fun m2MDisIn => ?_) (fun m2MDisIn => ?_)
                    · refine jr_ic rfl ?_
                      refine jr_zret rfl rfl rfl (Nat.zero_le _) (Nat.zero_le _) ?_
                      refine jr_if_eq rfl (fun _ => ?_) (fun z => absurd (by decide) z)
                      refine jr_ic rfl ?_
                      refine jr_iret rfl rfl (Nat.zero_le _) (Nat.zero_le _) ?_
                      first
                        | exact ⟨rfl, hRel0⟩
                        | (exfalso; omega)
                        | (exfalso; simp (disch := omega) only [Int32.lt_iff_toInt_lt, Int32.le_iff_toInt_le, ← Int32.toInt_inj, Int32.reduceToInt, nI_toInt] at c1RephasMonth c5RephasMonth c1Ledwrite c4Ledwrite c7Ledwrite m2MDisIn; done)
                        | (exfalso; simp (disch := omega) only [Int32.lt_iff_toInt_lt, Int32.le_iff_toInt_le, ← Int32.toInt_inj, Int32.reduceToInt, nI_toInt] at c1RephasMonth c5RephasMonth c1Ledwrite c4Ledwrite c7Ledwrite m2MDisIn; omega)
                    · refine jr_iload rfl rfl ?_
                      refine jr_iload rfl rfl ?_
                      refine jr_icmp_gt rfl (fun m5MDisIn => ?_) (fun m5MDisIn => ?_)
                      · refine jr_ic rfl ?_
                        refine jr_zret rfl rfl rfl (Nat.zero_le _) (Nat.zero_le _) ?_
                        refine jr_if_eq rfl (fun _ => ?_) (fun z => absurd (by decide) z)
                        refine jr_ic rfl ?_
                        refine jr_iret rfl rfl (Nat.zero_le _) (Nat.zero_le _) ?_
                        first
                          | exact ⟨rfl, hRel0⟩
                          | (exfalso; omega)
                          | (exfalso; simp (disch := omega) only [Int32.lt_iff_toInt_lt, Int32.le_iff_toInt_le, ← Int32.toInt_inj, Int32.reduceToInt, nI_toInt] at c1RephasMonth c5RephasMonth c1Ledwrite c4Ledwrite c7Ledwrite m2MDisIn m5MDisIn; done)
                          | (exfalso; simp (disch := omega) only [Int32.lt_iff_toInt_lt, Int32.le_iff_toInt_le, ← Int32.toInt_inj, Int32.reduceToInt, nI_toInt] at c1RephasMonth c5RephasMonth c1Ledwrite c4Ledwrite c7Ledwrite m2MDisIn m5MDisIn; omega)
                      · refine jr_ic rfl ?_
                        refine jr_goto rfl ?_
                        refine jr_zret rfl rfl rfl (Nat.zero_le _) (Nat.zero_le _) ?_
                        refine jr_if_eq rfl (fun z => absurd z (by decide)) (fun _ => ?_)
                        refine jr_iload rfl rfl ?_
                        refine jr_ic rfl ?_
                        refine jr_aload rfl rfl ?_
                        refine jr_getR rfl rfl rfl rfl (Or.inl rfl) ?_
                        refine jr_aload rfl rfl ?_
                        refine jr_getI rfl rfl ?_
                        refine jr_iald (len := 2) rfl rfl hw.1 (by omega) ?_
                        refine jr_ic rfl ?_
                        refine jr_isub rfl ?_
                        refine jr_cs3 (mc' := 0) (ms' := 0) rfl jm_MD_isIn_n jm_MD_isIn_f rfl rfl rfl rfl rfl (Nat.zero_le _) (Nat.zero_le _) ?_
                        show jx_W (jm_MD_isIn, _, _, _, _, _, _) _ 0 0 0 [some _, some _, some _] [] _
                        refine jr_iload rfl rfl ?_
                        refine jr_iload rfl rfl ?_
                        refine jr_icmp_lt rfl (fun m2MDisIn_2 => ?_) (fun m2MDisIn_2 => ?_)
                        · refine jr_ic rfl ?_
                          refine jr_zret rfl rfl rfl (Nat.zero_le _) (Nat.zero_le _) ?_
                          refine jr_if_eq rfl (fun _ => ?_) (fun z => absurd (by decide) z)
                          refine jr_ic rfl ?_
                          refine jr_iret rfl rfl (Nat.zero_le _) (Nat.zero_le _) ?_
                          first
                            | exact ⟨rfl, hRel0⟩
                            | (exfalso; omega)
                            | (exfalso; simp (disch := omega) only [Int32.lt_iff_toInt_lt, Int32.le_iff_toInt_le, ← Int32.toInt_inj, Int32.reduceToInt, nI_toInt] at c1RephasMonth c5RephasMonth c1Ledwrite c4Ledwrite c7Ledwrite m2MDisIn m5MDisIn m2MDisIn_2; done)
                            | (exfalso; simp (disch := omega) only [Int32.lt_iff_toInt_lt, Int32.le_iff_toInt_le, ← Int32.toInt_inj, Int32.reduceToInt, nI_toInt] at c1RephasMonth c5RephasMonth c1Ledwrite c4Ledwrite c7Ledwrite m2MDisIn m5MDisIn m2MDisIn_2; omega)
                        · refine jr_iload rfl rfl ?_
                          refine jr_iload rfl rfl ?_
                          refine jr_icmp_gt rfl (fun m5MDisIn_2 => ?_) (fun m5MDisIn_2 => ?_)
                          · refine jr_ic rfl ?_
                            refine jr_zret rfl rfl rfl (Nat.zero_le _) (Nat.zero_le _) ?_
                            refine jr_if_eq rfl (fun _ => ?_) (fun z => absurd (by decide) z)
                            refine jr_ic rfl ?_
                            refine jr_iret rfl rfl (Nat.zero_le _) (Nat.zero_le _) ?_
                            first
                              | exact ⟨rfl, hRel0⟩
                              | (exfalso; omega)
                              | (exfalso; simp (disch := omega) only [Int32.lt_iff_toInt_lt, Int32.le_iff_toInt_le, ← Int32.toInt_inj, Int32.reduceToInt, nI_toInt] at c1RephasMonth c5RephasMonth c1Ledwrite c4Ledwrite c7Ledwrite m2MDisIn m5MDisIn m2MDisIn_2 m5MDisIn_2; done)
                              | (exfalso; simp (disch := omega) only [Int32.lt_iff_toInt_lt, Int32.le_iff_toInt_le, ← Int32.toInt_inj, Int32.reduceToInt, nI_toInt] at c1RephasMonth c5RephasMonth c1Ledwrite c4Ledwrite c7Ledwrite m2MDisIn m5MDisIn m2MDisIn_2 m5MDisIn_2; omega)
                          · refine jr_ic rfl ?_
                            refine jr_goto rfl ?_
                            refine jr_zret rfl rfl rfl (Nat.zero_le _) (Nat.zero_le _) ?_
                            refine jr_if_eq rfl (fun z => absurd z (by decide)) (fun _ => ?_)
                            refine jr_iload rfl rfl ?_
                            refine jr_ic rfl ?_
                            refine jr_ic rfl ?_
                            refine jr_cs3 (mc' := 0) (ms' := 0) rfl jm_MD_isIn_n jm_MD_isIn_f rfl rfl rfl rfl rfl (Nat.zero_le _) (Nat.zero_le _) ?_
                            show jx_W (jm_MD_isIn, _, _, _, _, _, _) _ 0 0 0 [some _, some _, some _] [] _
                            refine jr_iload rfl rfl ?_
                            refine jr_iload rfl rfl ?_
                            refine jr_icmp_lt rfl (fun m2MDisIn_3 => ?_) (fun m2MDisIn_3 => ?_)
                            · refine jr_ic rfl ?_
                              refine jr_zret rfl rfl rfl (Nat.zero_le _) (Nat.zero_le _) ?_
                              refine jr_if_eq rfl (fun _ => ?_) (fun z => absurd (by decide) z)
                              refine jr_ic rfl ?_
                              refine jr_iret rfl rfl (Nat.zero_le _) (Nat.zero_le _) ?_
                              first
                                | exact ⟨rfl, hRel0⟩
                                | (exfalso; omega)
                                | (exfalso; simp (disch := omega) only [Int32.lt_iff_toInt_lt, Int32.le_iff_toInt_le, ← Int32.toInt_inj, Int32.reduceToInt, nI_toInt] at c1RephasMonth c5RephasMonth c1Ledwrite c4Ledwrite c7Ledwrite m2MDisIn m5MDisIn m2MDisIn_2 m5MDisIn_2 m2MDisIn_3; done)
                                | (exfalso; simp (disch := omega) only [Int32.lt_iff_toInt_lt, Int32.le_iff_toInt_le, ← Int32.toInt_inj, Int32.reduceToInt, nI_toInt] at c1RephasMonth c5RephasMonth c1Ledwrite c4Ledwrite c7Ledwrite m2MDisIn m5MDisIn m2MDisIn_2 m5MDisIn_2 m2MDisIn_3; omega)
                            · refine jr_iload rfl rfl ?_
                              refine jr_iload rfl rfl ?_
                              refine jr_icmp_gt rfl (fun m5MDisIn_3 => ?_) (fun m5MDisIn_3 => ?_)
                              · refine jr_ic rfl ?_
                                refine jr_zret rfl rfl rfl (Nat.zero_le _) (Nat.zero_le _) ?_
                                refine jr_if_eq rfl (fun _ => ?_) (fun z => absurd (by decide) z)
                                refine jr_ic rfl ?_
                                refine jr_iret rfl rfl (Nat.zero_le _) (Nat.zero_le _) ?_
                                first
                                  | exact ⟨rfl, hRel0⟩
                                  | (exfalso; omega)
                                  | (exfalso; simp (disch := omega) only [Int32.lt_iff_toInt_lt, Int32.le_iff_toInt_le, ← Int32.toInt_inj, Int32.reduceToInt, nI_toInt] at c1RephasMonth c5RephasMonth c1Ledwrite c4Ledwrite c7Ledwrite m2MDisIn m5MDisIn m2MDisIn_2 m5MDisIn_2 m2MDisIn_3 m5MDisIn_3; done)
                                  | (exfalso; simp (disch := omega) only [Int32.lt_iff_toInt_lt, Int32.le_iff_toInt_le, ← Int32.toInt_inj, Int32.reduceToInt, nI_toInt] at c1RephasMonth c5RephasMonth c1Ledwrite c4Ledwrite c7Ledwrite m2MDisIn m5MDisIn m2MDisIn_2 m5MDisIn_2 m2MDisIn_3 m5MDisIn_3; omega)
                              · refine jr_ic rfl ?_
                                refine jr_goto rfl ?_
                                refine jr_zret rfl rfl rfl (Nat.zero_le _) (Nat.zero_le _) ?_
                                refine jr_if_eq rfl (fun z => absurd z (by decide)) (fun _ => ?_)
                                refine jr_aload rfl rfl ?_
                                refine jr_getI rfl rfl ?_
                                refine jr_ic rfl ?_
                                refine jr_icmp_ne rfl (fun m24 => ?_) (fun m24 => ?_)
                                · refine jr_aload rfl rfl ?_
                                  refine jr_getR rfl rfl rfl rfl (Or.inl rfl) ?_
                                  refine jr_aload rfl rfl ?_
                                  refine jr_getI rfl rfl ?_
                                  refine jr_iload rfl rfl ?_
                                  refine jr_iast (len := 30) rfl rfl e3 (by omega) ?_
                                  refine jr_aload rfl rfl ?_
                                  refine jr_getR rfl rfl rfl rfl (Or.inl rfl) ?_
                                  refine jr_aload rfl rfl ?_
                                  refine jr_getI rfl rfl ?_
                                  refine jr_iload rfl rfl ?_
                                  refine jr_iast (len := 30) rfl rfl e3 (by omega) ?_
                                  refine jr_aload rfl rfl ?_
                                  refine jr_getR rfl rfl rfl rfl (Or.inl rfl) ?_
                                  refine jr_aload rfl rfl ?_
                                  refine jr_getI rfl rfl ?_
                                  refine jr_iload rfl rfl ?_
                                  refine jr_iast (len := 30) rfl rfl e3 (by omega) ?_
                                  refine jr_aload rfl rfl ?_
                                  refine jr_getR rfl rfl rfl rfl (Or.inl rfl) ?_
                                  refine jr_aload rfl rfl ?_
                                  refine jr_getI rfl rfl ?_
                                  refine jr_aload rfl rfl ?_
                                  refine jr_getI rfl rfl ?_
                                  refine jr_iast (len := 30) rfl rfl e3 (by omega) ?_
                                  refine jr_aload rfl rfl ?_
                                  refine jr_getR rfl rfl rfl rfl (Or.inl rfl) ?_
                                  refine jr_aload rfl rfl ?_
                                  refine jr_getI rfl rfl ?_
                                  refine jr_ic rfl ?_
                                  refine jr_iast (len := 30) rfl rfl e3 (by omega) ?_
                                  refine jr_aload rfl rfl ?_
                                  refine jr_dup_r rfl ?_
                                  refine jr_getI rfl rfl ?_
                                  refine jr_ic rfl ?_
                                  refine jr_iadd rfl ?_
                                  refine jr_putI rfl rfl ?_
                                  refine jr_aload rfl rfl ?_
                                  refine jr_getI rfl rfl ?_
                                  refine jr_ic rfl ?_
                                  refine jr_isub rfl ?_
                                  refine jr_iret rfl rfl (Nat.zero_le _) (Nat.zero_le _) ?_
                                  first
                                    | exact ⟨rfl, hRel0⟩
                                    | (exfalso; omega)
                                    | (exfalso; simp (disch := omega) only [Int32.lt_iff_toInt_lt, Int32.le_iff_toInt_le, ← Int32.toInt_inj, Int32.reduceToInt, nI_toInt] at c1RephasMonth c5RephasMonth c1Ledwrite c4Ledwrite c7Ledwrite m2MDisIn m5MDisIn m2MDisIn_2 m5MDisIn_2 m2MDisIn_3 m5MDisIn_3 m24; done)
                                    | (exfalso; simp (disch := omega) only [Int32.lt_iff_toInt_lt, Int32.le_iff_toInt_le, ← Int32.toInt_inj, Int32.reduceToInt, nI_toInt] at c1RephasMonth c5RephasMonth c1Ledwrite c4Ledwrite c7Ledwrite m2MDisIn m5MDisIn m2MDisIn_2 m5MDisIn_2 m2MDisIn_3 m5MDisIn_3 m24; omega)
                                · refine jr_ic rfl ?_
                                  refine jr_iret rfl rfl (Nat.zero_le _) (Nat.zero_le _) ?_
                                  first
                                    | exact ⟨rfl, hRel0⟩
                                    | (exfalso; omega)
                                    | (exfalso; simp (disch := omega) only [Int32.lt_iff_toInt_lt, Int32.le_iff_toInt_le, ← Int32.toInt_inj, Int32.reduceToInt, nI_toInt] at c1RephasMonth c5RephasMonth c1Ledwrite c4Ledwrite c7Ledwrite m2MDisIn m5MDisIn m2MDisIn_2 m5MDisIn_2 m2MDisIn_3 m5MDisIn_3 m24; done)
                                    | (exfalso; simp (disch := omega) only [Int32.lt_iff_toInt_lt, Int32.le_iff_toInt_le, ← Int32.toInt_inj, Int32.reduceToInt, nI_toInt] at c1RephasMonth c5RephasMonth c1Ledwrite c4Ledwrite c7Ledwrite m2MDisIn m5MDisIn m2MDisIn_2 m5MDisIn_2 m2MDisIn_3 m5MDisIn_3 m24; omega)
                  · refine jr_iload rfl rfl ?_
                    refine jr_ic rfl ?_
                    refine jr_icmp_gt rfl (fun c10Ledwrite => ?_) (fun c10Ledwrite => ?_)
                    · refine jr_ic rfl ?_
                      refine jr_iret rfl rfl (Nat.zero_le _) (Nat.zero_le _) ?_
                      refine jr_iret rfl rfl (Nat.zero_le _) (Nat.zero_le _) ?_
                      show jx_W (jm_MD_ledger, d + 40, 0, 0, false, 1, _) _ 0 0 0 [some _, some _, some _, some _] [] _
                      refine jr_iload rfl rfl ?_
                      refine jr_ic rfl ?_
                      refine jr_ic rfl ?_
                      refine jr_cs3 (mc' := 0) (ms' := 0) rfl jm_MD_isIn_n jm_MD_isIn_f rfl rfl rfl rfl rfl (Nat.zero_le _) (Nat.zero_le _) ?_
                      show jx_W (jm_MD_isIn, _, _, _, _, _, _) _ 0 0 0 [some _, some _, some _] [] _
                      refine jr_iload rfl rfl ?_
                      refine jr_iload rfl rfl ?_
                      refine jr_icmp_lt rfl (fun m2MDisIn => ?_) (fun m2MDisIn => ?_)
                      · refine jr_ic rfl ?_
                        refine jr_zret rfl rfl rfl (Nat.zero_le _) (Nat.zero_le _) ?_
                        refine jr_if_eq rfl (fun _ => ?_) (fun z => absurd (by decide) z)
                        refine jr_ic rfl ?_
                        refine jr_iret rfl rfl (Nat.zero_le _) (Nat.zero_le _) ?_
                        first
                          | exact ⟨rfl, hRel0⟩
                          | (exfalso; omega)
                          | (exfalso; simp (disch := omega) only [Int32.lt_iff_toInt_lt, Int32.le_iff_toInt_le, ← Int32.toInt_inj, Int32.reduceToInt, nI_toInt] at c1RephasMonth c5RephasMonth c1Ledwrite c4Ledwrite c7Ledwrite c10Ledwrite m2MDisIn; done)
                          | (exfalso; simp (disch := omega) only [Int32.lt_iff_toInt_lt, Int32.le_iff_toInt_le, ← Int32.toInt_inj, Int32.reduceToInt, nI_toInt] at c1RephasMonth c5RephasMonth c1Ledwrite c4Ledwrite c7Ledwrite c10Ledwrite m2MDisIn; omega)
                      · refine jr_iload rfl rfl ?_
                        refine jr_iload rfl rfl ?_
                        refine jr_icmp_gt rfl (fun m5MDisIn => ?_) (fun m5MDisIn => ?_)
                        · refine jr_ic rfl ?_
                          refine jr_zret rfl rfl rfl (Nat.zero_le _) (Nat.zero_le _) ?_
                          refine jr_if_eq rfl (fun _ => ?_) (fun z => absurd (by decide) z)
                          refine jr_ic rfl ?_
                          refine jr_iret rfl rfl (Nat.zero_le _) (Nat.zero_le _) ?_
                          first
                            | exact ⟨rfl, hRel0⟩
                            | (exfalso; omega)
                            | (exfalso; simp (disch := omega) only [Int32.lt_iff_toInt_lt, Int32.le_iff_toInt_le, ← Int32.toInt_inj, Int32.reduceToInt, nI_toInt] at c1RephasMonth c5RephasMonth c1Ledwrite c4Ledwrite c7Ledwrite c10Ledwrite m2MDisIn m5MDisIn; done)
                            | (exfalso; simp (disch := omega) only [Int32.lt_iff_toInt_lt, Int32.le_iff_toInt_le, ← Int32.toInt_inj, Int32.reduceToInt, nI_toInt] at c1RephasMonth c5RephasMonth c1Ledwrite c4Ledwrite c7Ledwrite c10Ledwrite m2MDisIn m5MDisIn; omega)
                        · refine jr_ic rfl ?_
                          refine jr_goto rfl ?_
                          refine jr_zret rfl rfl rfl (Nat.zero_le _) (Nat.zero_le _) ?_
                          refine jr_if_eq rfl (fun z => absurd z (by decide)) (fun _ => ?_)
                          refine jr_iload rfl rfl ?_
                          refine jr_ic rfl ?_
                          refine jr_aload rfl rfl ?_
                          refine jr_getR rfl rfl rfl rfl (Or.inl rfl) ?_
                          refine jr_aload rfl rfl ?_
                          refine jr_getI rfl rfl ?_
                          refine jr_iald (len := 2) rfl rfl hw.1 (by omega) ?_
                          refine jr_ic rfl ?_
                          refine jr_isub rfl ?_
                          refine jr_cs3 (mc' := 0) (ms' := 0) rfl jm_MD_isIn_n jm_MD_isIn_f rfl rfl rfl rfl rfl (Nat.zero_le _) (Nat.zero_le _) ?_
                          show jx_W (jm_MD_isIn, _, _, _, _, _, _) _ 0 0 0 [some _, some _, some _] [] _
                          refine jr_iload rfl rfl ?_
                          refine jr_iload rfl rfl ?_
                          refine jr_icmp_lt rfl (fun m2MDisIn_2 => ?_) (fun m2MDisIn_2 => ?_)
                          · refine jr_ic rfl ?_
                            refine jr_zret rfl rfl rfl (Nat.zero_le _) (Nat.zero_le _) ?_
                            refine jr_if_eq rfl (fun _ => ?_) (fun z => absurd (by decide) z)
                            refine jr_ic rfl ?_
                            refine jr_iret rfl rfl (Nat.zero_le _) (Nat.zero_le _) ?_
                            first
                              | exact ⟨rfl, hRel0⟩
                              | (exfalso; omega)
                              | (exfalso; simp (disch := omega) only [Int32.lt_iff_toInt_lt, Int32.le_iff_toInt_le, ← Int32.toInt_inj, Int32.reduceToInt, nI_toInt] at c1RephasMonth c5RephasMonth c1Ledwrite c4Ledwrite c7Ledwrite c10Ledwrite m2MDisIn m5MDisIn m2MDisIn_2; done)
                              | (exfalso; simp (disch := omega) only [Int32.lt_iff_toInt_lt, Int32.le_iff_toInt_le, ← Int32.toInt_inj, Int32.reduceToInt, nI_toInt] at c1RephasMonth c5RephasMonth c1Ledwrite c4Ledwrite c7Ledwrite c10Ledwrite m2MDisIn m5MDisIn m2MDisIn_2; omega)
                          · refine jr_iload rfl rfl ?_
                            refine jr_iload rfl rfl ?_
                            refine jr_icmp_gt rfl (fun m5MDisIn_2 => ?_) (fun m5MDisIn_2 => ?_)
                            · refine jr_ic rfl ?_
                              refine jr_zret rfl rfl rfl (Nat.zero_le _) (Nat.zero_le _) ?_
                              refine jr_if_eq rfl (fun _ => ?_) (fun z => absurd (by decide) z)
                              refine jr_ic rfl ?_
                              refine jr_iret rfl rfl (Nat.zero_le _) (Nat.zero_le _) ?_
                              first
                                | exact ⟨rfl, hRel0⟩
                                | (exfalso; omega)
                                | (exfalso; simp (disch := omega) only [Int32.lt_iff_toInt_lt, Int32.le_iff_toInt_le, ← Int32.toInt_inj, Int32.reduceToInt, nI_toInt] at c1RephasMonth c5RephasMonth c1Ledwrite c4Ledwrite c7Ledwrite c10Ledwrite m2MDisIn m5MDisIn m2MDisIn_2 m5MDisIn_2; done)
                                | (exfalso; simp (disch := omega) only [Int32.lt_iff_toInt_lt, Int32.le_iff_toInt_le, ← Int32.toInt_inj, Int32.reduceToInt, nI_toInt] at c1RephasMonth c5RephasMonth c1Ledwrite c4Ledwrite c7Ledwrite c10Ledwrite m2MDisIn m5MDisIn m2MDisIn_2 m5MDisIn_2; omega)
                            · refine jr_ic rfl ?_
                              refine jr_goto rfl ?_
                              refine jr_zret rfl rfl rfl (Nat.zero_le _) (Nat.zero_le _) ?_
                              refine jr_if_eq rfl (fun z => absurd z (by decide)) (fun _ => ?_)
                              refine jr_iload rfl rfl ?_
                              refine jr_ic rfl ?_
                              refine jr_ic rfl ?_
                              refine jr_cs3 (mc' := 0) (ms' := 0) rfl jm_MD_isIn_n jm_MD_isIn_f rfl rfl rfl rfl rfl (Nat.zero_le _) (Nat.zero_le _) ?_
                              show jx_W (jm_MD_isIn, _, _, _, _, _, _) _ 0 0 0 [some _, some _, some _] [] _
                              refine jr_iload rfl rfl ?_
                              refine jr_iload rfl rfl ?_
                              refine jr_icmp_lt rfl (fun m2MDisIn_3 => ?_) (fun m2MDisIn_3 => ?_)
                              · refine jr_ic rfl ?_
                                refine jr_zret rfl rfl rfl (Nat.zero_le _) (Nat.zero_le _) ?_
                                refine jr_if_eq rfl (fun _ => ?_) (fun z => absurd (by decide) z)
                                refine jr_ic rfl ?_
                                refine jr_iret rfl rfl (Nat.zero_le _) (Nat.zero_le _) ?_
                                first
                                  | exact ⟨rfl, hRel0⟩
                                  | (exfalso; omega)
                                  | (exfalso; simp (disch := omega) only [Int32.lt_iff_toInt_lt, Int32.le_iff_toInt_le, ← Int32.toInt_inj, Int32.reduceToInt, nI_toInt] at c1RephasMonth c5RephasMonth c1Ledwrite c4Ledwrite c7Ledwrite c10Ledwrite m2MDisIn m5MDisIn m2MDisIn_2 m5MDisIn_2 m2MDisIn_3; done)
                                  | (exfalso; simp (disch := omega) only [Int32.lt_iff_toInt_lt, Int32.le_iff_toInt_le, ← Int32.toInt_inj, Int32.reduceToInt, nI_toInt] at c1RephasMonth c5RephasMonth c1Ledwrite c4Ledwrite c7Ledwrite c10Ledwrite m2MDisIn m5MDisIn m2MDisIn_2 m5MDisIn_2 m2MDisIn_3; omega)
                              · refine jr_iload rfl rfl ?_
                                refine jr_iload rfl rfl ?_
                                refine jr_icmp_gt rfl (fun m5MDisIn_3 => ?_) (fun m5MDisIn_3 => ?_)
                                · refine jr_ic rfl ?_
                                  refine jr_zret rfl rfl rfl (Nat.zero_le _) (Nat.zero_le _) ?_
                                  refine jr_if_eq rfl (fun _ => ?_) (fun z => absurd (by decide) z)
                                  refine jr_ic rfl ?_
                                  refine jr_iret rfl rfl (Nat.zero_le _) (Nat.zero_le _) ?_
                                  first
                                    | exact ⟨rfl, hRel0⟩
                                    | (exfalso; omega)
                                    | (exfalso; simp (disch := omega) only [Int32.lt_iff_toInt_lt, Int32.le_iff_toInt_le, ← Int32.toInt_inj, Int32.reduceToInt, nI_toInt] at c1RephasMonth c5RephasMonth c1Ledwrite c4Ledwrite c7Ledwrite c10Ledwrite m2MDisIn m5MDisIn m2MDisIn_2 m5MDisIn_2 m2MDisIn_3 m5MDisIn_3; done)
                                    | (exfalso; simp (disch := omega) only [Int32.lt_iff_toInt_lt, Int32.le_iff_toInt_le, ← Int32.toInt_inj, Int32.reduceToInt, nI_toInt] at c1RephasMonth c5RephasMonth c1Ledwrite c4Ledwrite c7Ledwrite c10Ledwrite m2MDisIn m5MDisIn m2MDisIn_2 m5MDisIn_2 m2MDisIn_3 m5MDisIn_3; omega)
                                · refine jr_ic rfl ?_
                                  refine jr_goto rfl ?_
                                  refine jr_zret rfl rfl rfl (Nat.zero_le _) (Nat.zero_le _) ?_
                                  refine jr_if_eq rfl (fun z => absurd z (by decide)) (fun _ => ?_)
                                  refine jr_aload rfl rfl ?_
                                  refine jr_getI rfl rfl ?_
                                  refine jr_ic rfl ?_
                                  refine jr_icmp_ne rfl (fun m24 => ?_) (fun m24 => ?_)
                                  · refine jr_aload rfl rfl ?_
                                    refine jr_getR rfl rfl rfl rfl (Or.inl rfl) ?_
                                    refine jr_aload rfl rfl ?_
                                    refine jr_getI rfl rfl ?_
                                    refine jr_iload rfl rfl ?_
                                    refine jr_iast (len := 30) rfl rfl e3 (by omega) ?_
                                    refine jr_aload rfl rfl ?_
                                    refine jr_getR rfl rfl rfl rfl (Or.inl rfl) ?_
                                    refine jr_aload rfl rfl ?_
                                    refine jr_getI rfl rfl ?_
                                    refine jr_iload rfl rfl ?_
                                    refine jr_iast (len := 30) rfl rfl e3 (by omega) ?_
                                    refine jr_aload rfl rfl ?_
                                    refine jr_getR rfl rfl rfl rfl (Or.inl rfl) ?_
                                    refine jr_aload rfl rfl ?_
                                    refine jr_getI rfl rfl ?_
                                    refine jr_iload rfl rfl ?_
                                    refine jr_iast (len := 30) rfl rfl e3 (by omega) ?_
                                    refine jr_aload rfl rfl ?_
                                    refine jr_getR rfl rfl rfl rfl (Or.inl rfl) ?_
                                    refine jr_aload rfl rfl ?_
                                    refine jr_getI rfl rfl ?_
                                    refine jr_aload rfl rfl ?_
                                    refine jr_getI rfl rfl ?_
                                    refine jr_iast (len := 30) rfl rfl e3 (by omega) ?_
                                    refine jr_aload rfl rfl ?_
                                    refine jr_getR rfl rfl rfl rfl (Or.inl rfl) ?_
                                    refine jr_aload rfl rfl ?_
                                    refine jr_getI rfl rfl ?_
                                    refine jr_ic rfl ?_
                                    refine jr_iast (len := 30) rfl rfl e3 (by omega) ?_
                                    refine jr_aload rfl rfl ?_
                                    refine jr_dup_r rfl ?_
                                    refine jr_getI rfl rfl ?_
                                    refine jr_ic rfl ?_
                                    refine jr_iadd rfl ?_
                                    refine jr_putI rfl rfl ?_
                                    refine jr_aload rfl rfl ?_
                                    refine jr_getI rfl rfl ?_
                                    refine jr_ic rfl ?_
                                    refine jr_isub rfl ?_
                                    refine jr_iret rfl rfl (Nat.zero_le _) (Nat.zero_le _) ?_
                                    first
                                      | exact ⟨rfl, hRel0⟩
                                      | (exfalso; omega)
                                      | (exfalso; simp (disch := omega) only [Int32.lt_iff_toInt_lt, Int32.le_iff_toInt_le, ← Int32.toInt_inj, Int32.reduceToInt, nI_toInt] at c1RephasMonth c5RephasMonth c1Ledwrite c4Ledwrite c7Ledwrite c10Ledwrite m2MDisIn m5MDisIn m2MDisIn_2 m5MDisIn_2 m2MDisIn_3 m5MDisIn_3 m24; done)
                                      | (exfalso; simp (disch := omega) only [Int32.lt_iff_toInt_lt, Int32.le_iff_toInt_le, ← Int32.toInt_inj, Int32.reduceToInt, nI_toInt] at c1RephasMonth c5RephasMonth c1Ledwrite c4Ledwrite c7Ledwrite c10Ledwrite m2MDisIn m5MDisIn m2MDisIn_2 m5MDisIn_2 m2MDisIn_3 m5MDisIn_3 m24; omega)
                                  · refine jr_ic rfl ?_
                                    refine jr_iret rfl rfl (Nat.zero_le _) (Nat.zero_le _) ?_
                                    first
                                      | exact ⟨rfl, hRel0⟩
                                      | (exfalso; omega)
                                      | (exfalso; simp (disch := omega) only [Int32.lt_iff_toInt_lt, Int32.le_iff_toInt_le, ← Int32.toInt_inj, Int32.reduceToInt, nI_toInt] at c1RephasMonth c5RephasMonth c1Ledwrite c4Ledwrite c7Ledwrite c10Ledwrite m2MDisIn m5MDisIn m2MDisIn_2 m5MDisIn_2 m2MDisIn_3 m5MDisIn_3 m24; done)
                                      | (exfalso; simp (disch := omega) only [Int32.lt_iff_toInt_lt, Int32.le_iff_toInt_le, ← Int32.toInt_inj, Int32.reduceToInt, nI_toInt] at c1RephasMonth c5RephasMonth c1Ledwrite c4Ledwrite c7Ledwrite c10Ledwrite m2MDisIn m5MDisIn m2MDisIn_2 m5MDisIn_2 m2MDisIn_3 m5MDisIn_3 m24; omega)
                    · refine jr_aload rfl rfl ?_
                      refine jr_getI rfl rfl ?_
                      refine jr_ic rfl ?_
                      refine jr_icmp_lt rfl (fun c14Ledwrite => ?_) (fun c14Ledwrite => ?_)
                      · refine jr_aload rfl rfl ?_
                        refine jr_getR rfl rfl rfl rfl (Or.inl rfl) ?_
                        refine jr_aload rfl rfl ?_
                        refine jr_getI rfl rfl ?_
                        refine jr_iload rfl rfl ?_
                        refine jr_iast (len := 30) rfl rfl e2 (by omega) ?_
                        refine jr_aload rfl rfl ?_
                        refine jr_getR rfl rfl rfl rfl (Or.inl rfl) ?_
                        refine jr_aload rfl rfl ?_
                        refine jr_getI rfl rfl ?_
                        refine jr_iload rfl rfl ?_
                        refine jr_iload rfl rfl ?_
                        refine jr_cs2 (mc' := 0) (ms' := 0) rfl jm_Led_stampOf_n jm_Led_stampOf_f rfl rfl rfl rfl rfl (Nat.zero_le _) (Nat.zero_le _) ?_
                        show jx_W (jm_Led_stampOf, _, _, _, _, _, _) _ 0 0 0 [some _, some _] [] _
                        refine jr_iload rfl rfl ?_
                        refine jr_ic rfl ?_
                        refine jr_imul rfl ?_
                        refine jr_iload rfl rfl ?_
                        refine jr_iadd rfl ?_
                        refine jr_iret rfl rfl (Nat.zero_le _) (Nat.zero_le _) ?_
                        rw [show nI m * 32 + nI e = nI (m * 32 + e) from jn_add (jn_mul rfl (jn_c 32)) rfl]
                        refine jr_iast (len := 30) rfl rfl e2 (by omega) ?_
                        refine jr_aload rfl rfl ?_
                        refine jr_getR rfl rfl rfl rfl (Or.inl rfl) ?_
                        refine jr_aload rfl rfl ?_
                        refine jr_getI rfl rfl ?_
                        refine jr_iload rfl rfl ?_
                        refine jr_iast (len := 30) rfl rfl e2 (by omega) ?_
                        refine jr_aload rfl rfl ?_
                        refine jr_getR rfl rfl rfl rfl (Or.inl rfl) ?_
                        refine jr_aload rfl rfl ?_
                        refine jr_getI rfl rfl ?_
                        refine jr_ic rfl ?_
                        refine jr_iast (len := 30) rfl rfl e2 (by omega) ?_
                        refine jr_aload rfl rfl ?_
                        refine jr_dup_r rfl ?_
                        refine jr_getI rfl rfl ?_
                        refine jr_ic rfl ?_
                        refine jr_iadd rfl ?_
                        refine jr_putI rfl rfl ?_
                        refine jr_aload rfl rfl ?_
                        refine jr_getI rfl rfl ?_
                        refine jr_ic rfl ?_
                        refine jr_isub rfl ?_
                        refine jr_iret rfl rfl (Nat.zero_le _) (Nat.zero_le _) ?_
                        refine jr_iret rfl rfl (Nat.zero_le _) (Nat.zero_le _) ?_
                        show jx_W (jm_MD_ledger, d + 40, 0, 0, false, 1, _) _ 0 0 0 [some _, some _, some _, some _] [] _
                        refine jr_iload rfl rfl ?_
                        refine jr_ic rfl ?_
                        refine jr_ic rfl ?_
                        refine jr_cs3 (mc' := 0) (ms' := 0) rfl jm_MD_isIn_n jm_MD_isIn_f rfl rfl rfl rfl rfl (Nat.zero_le _) (Nat.zero_le _) ?_
                        show jx_W (jm_MD_isIn, _, _, _, _, _, _) _ 0 0 0 [some _, some _, some _] [] _
                        refine jr_iload rfl rfl ?_
                        refine jr_iload rfl rfl ?_
                        refine jr_icmp_lt rfl (fun m2MDisIn => ?_) (fun m2MDisIn => ?_)
                        · refine jr_ic rfl ?_
                          refine jr_zret rfl rfl rfl (Nat.zero_le _) (Nat.zero_le _) ?_
                          refine jr_if_eq rfl (fun _ => ?_) (fun z => absurd (by decide) z)
                          refine jr_ic rfl ?_
                          refine jr_iret rfl rfl (Nat.zero_le _) (Nat.zero_le _) ?_
                          first
                            | exact ⟨rfl, hRel0⟩
                            | (exfalso; omega)
                            | (exfalso; simp (disch := omega) only [Int32.lt_iff_toInt_lt, Int32.le_iff_toInt_le, ← Int32.toInt_inj, Int32.reduceToInt, nI_toInt] at c1RephasMonth c5RephasMonth c1Ledwrite c4Ledwrite c7Ledwrite c10Ledwrite c14Ledwrite m2MDisIn; done)
                            | (exfalso; simp (disch := omega) only [Int32.lt_iff_toInt_lt, Int32.le_iff_toInt_le, ← Int32.toInt_inj, Int32.reduceToInt, nI_toInt] at c1RephasMonth c5RephasMonth c1Ledwrite c4Ledwrite c7Ledwrite c10Ledwrite c14Ledwrite m2MDisIn; omega)
                        · refine jr_iload rfl rfl ?_
                          refine jr_iload rfl rfl ?_
                          refine jr_icmp_gt rfl (fun m5MDisIn => ?_) (fun m5MDisIn => ?_)
                          · refine jr_ic rfl ?_
                            refine jr_zret rfl rfl rfl (Nat.zero_le _) (Nat.zero_le _) ?_
                            refine jr_if_eq rfl (fun _ => ?_) (fun z => absurd (by decide) z)
                            refine jr_ic rfl ?_
                            refine jr_iret rfl rfl (Nat.zero_le _) (Nat.zero_le _) ?_
                            first
                              | exact ⟨rfl, hRel0⟩
                              | (exfalso; omega)
                              | (exfalso; simp (disch := omega) only [Int32.lt_iff_toInt_lt, Int32.le_iff_toInt_le, ← Int32.toInt_inj, Int32.reduceToInt, nI_toInt] at c1RephasMonth c5RephasMonth c1Ledwrite c4Ledwrite c7Ledwrite c10Ledwrite c14Ledwrite m2MDisIn m5MDisIn; done)
                              | (exfalso; simp (disch := omega) only [Int32.lt_iff_toInt_lt, Int32.le_iff_toInt_le, ← Int32.toInt_inj, Int32.reduceToInt, nI_toInt] at c1RephasMonth c5RephasMonth c1Ledwrite c4Ledwrite c7Ledwrite c10Ledwrite c14Ledwrite m2MDisIn m5MDisIn; omega)
                          · refine jr_ic rfl ?_
                            refine jr_goto rfl ?_
                            refine jr_zret rfl rfl rfl (Nat.zero_le _) (Nat.zero_le _) ?_
                            refine jr_if_eq rfl (fun z => absurd z (by decide)) (fun _ => ?_)
                            refine jr_iload rfl rfl ?_
                            refine jr_ic rfl ?_
                            refine jr_aload rfl rfl ?_
                            refine jr_getR rfl rfl rfl rfl (Or.inl rfl) ?_
                            refine jr_aload rfl rfl ?_
                            refine jr_getI rfl rfl ?_
                            refine jr_iald (len := 2) rfl rfl hw.1 (by omega) ?_
                            refine jr_ic rfl ?_
                            refine jr_isub rfl ?_
                            refine jr_cs3 (mc' := 0) (ms' := 0) rfl jm_MD_isIn_n jm_MD_isIn_f rfl rfl rfl rfl rfl (Nat.zero_le _) (Nat.zero_le _) ?_
                            show jx_W (jm_MD_isIn, _, _, _, _, _, _) _ 0 0 0 [some _, some _, some _] [] _
                            refine jr_iload rfl rfl ?_
                            refine jr_iload rfl rfl ?_
                            refine jr_icmp_lt rfl (fun m2MDisIn_2 => ?_) (fun m2MDisIn_2 => ?_)
                            · refine jr_ic rfl ?_
                              refine jr_zret rfl rfl rfl (Nat.zero_le _) (Nat.zero_le _) ?_
                              refine jr_if_eq rfl (fun _ => ?_) (fun z => absurd (by decide) z)
                              refine jr_ic rfl ?_
                              refine jr_iret rfl rfl (Nat.zero_le _) (Nat.zero_le _) ?_
                              first
                                | exact ⟨rfl, hRel0⟩
                                | (exfalso; omega)
                                | (exfalso; simp (disch := omega) only [Int32.lt_iff_toInt_lt, Int32.le_iff_toInt_le, ← Int32.toInt_inj, Int32.reduceToInt, nI_toInt] at c1RephasMonth c5RephasMonth c1Ledwrite c4Ledwrite c7Ledwrite c10Ledwrite c14Ledwrite m2MDisIn m5MDisIn m2MDisIn_2; done)
                                | (exfalso; simp (disch := omega) only [Int32.lt_iff_toInt_lt, Int32.le_iff_toInt_le, ← Int32.toInt_inj, Int32.reduceToInt, nI_toInt] at c1RephasMonth c5RephasMonth c1Ledwrite c4Ledwrite c7Ledwrite c10Ledwrite c14Ledwrite m2MDisIn m5MDisIn m2MDisIn_2; omega)
                            · refine jr_iload rfl rfl ?_
                              refine jr_iload rfl rfl ?_
                              refine jr_icmp_gt rfl (fun m5MDisIn_2 => ?_) (fun m5MDisIn_2 => ?_)
                              · refine jr_ic rfl ?_
                                refine jr_zret rfl rfl rfl (Nat.zero_le _) (Nat.zero_le _) ?_
                                refine jr_if_eq rfl (fun _ => ?_) (fun z => absurd (by decide) z)
                                refine jr_ic rfl ?_
                                refine jr_iret rfl rfl (Nat.zero_le _) (Nat.zero_le _) ?_
                                first
                                  | exact ⟨rfl, hRel0⟩
                                  | (exfalso; omega)
                                  | (exfalso; simp (disch := omega) only [Int32.lt_iff_toInt_lt, Int32.le_iff_toInt_le, ← Int32.toInt_inj, Int32.reduceToInt, nI_toInt] at c1RephasMonth c5RephasMonth c1Ledwrite c4Ledwrite c7Ledwrite c10Ledwrite c14Ledwrite m2MDisIn m5MDisIn m2MDisIn_2 m5MDisIn_2; done)
                                  | (exfalso; simp (disch := omega) only [Int32.lt_iff_toInt_lt, Int32.le_iff_toInt_le, ← Int32.toInt_inj, Int32.reduceToInt, nI_toInt] at c1RephasMonth c5RephasMonth c1Ledwrite c4Ledwrite c7Ledwrite c10Ledwrite c14Ledwrite m2MDisIn m5MDisIn m2MDisIn_2 m5MDisIn_2; omega)
                              · refine jr_ic rfl ?_
                                refine jr_goto rfl ?_
                                refine jr_zret rfl rfl rfl (Nat.zero_le _) (Nat.zero_le _) ?_
                                refine jr_if_eq rfl (fun z => absurd z (by decide)) (fun _ => ?_)
                                refine jr_iload rfl rfl ?_
                                refine jr_ic rfl ?_
                                refine jr_ic rfl ?_
                                refine jr_cs3 (mc' := 0) (ms' := 0) rfl jm_MD_isIn_n jm_MD_isIn_f rfl rfl rfl rfl rfl (Nat.zero_le _) (Nat.zero_le _) ?_
                                show jx_W (jm_MD_isIn, _, _, _, _, _, _) _ 0 0 0 [some _, some _, some _] [] _
                                refine jr_iload rfl rfl ?_
                                refine jr_iload rfl rfl ?_
                                refine jr_icmp_lt rfl (fun m2MDisIn_3 => ?_) (fun m2MDisIn_3 => ?_)
                                · refine jr_ic rfl ?_
                                  refine jr_zret rfl rfl rfl (Nat.zero_le _) (Nat.zero_le _) ?_
                                  refine jr_if_eq rfl (fun _ => ?_) (fun z => absurd (by decide) z)
                                  refine jr_ic rfl ?_
                                  refine jr_iret rfl rfl (Nat.zero_le _) (Nat.zero_le _) ?_
                                  first
                                    | exact ⟨rfl, hRel0⟩
                                    | (exfalso; omega)
                                    | (exfalso; simp (disch := omega) only [Int32.lt_iff_toInt_lt, Int32.le_iff_toInt_le, ← Int32.toInt_inj, Int32.reduceToInt, nI_toInt] at c1RephasMonth c5RephasMonth c1Ledwrite c4Ledwrite c7Ledwrite c10Ledwrite c14Ledwrite m2MDisIn m5MDisIn m2MDisIn_2 m5MDisIn_2 m2MDisIn_3; done)
                                    | (exfalso; simp (disch := omega) only [Int32.lt_iff_toInt_lt, Int32.le_iff_toInt_le, ← Int32.toInt_inj, Int32.reduceToInt, nI_toInt] at c1RephasMonth c5RephasMonth c1Ledwrite c4Ledwrite c7Ledwrite c10Ledwrite c14Ledwrite m2MDisIn m5MDisIn m2MDisIn_2 m5MDisIn_2 m2MDisIn_3; omega)
                                · refine jr_iload rfl rfl ?_
                                  refine jr_iload rfl rfl ?_
                                  refine jr_icmp_gt rfl (fun m5MDisIn_3 => ?_) (fun m5MDisIn_3 => ?_)
                                  · refine jr_ic rfl ?_
                                    refine jr_zret rfl rfl rfl (Nat.zero_le _) (Nat.zero_le _) ?_
                                    refine jr_if_eq rfl (fun _ => ?_) (fun z => absurd (by decide) z)
                                    refine jr_ic rfl ?_
                                    refine jr_iret rfl rfl (Nat.zero_le _) (Nat.zero_le _) ?_
                                    first
                                      | exact ⟨rfl, hRel0⟩
                                      | (exfalso; omega)
                                      | (exfalso; simp (disch := omega) only [Int32.lt_iff_toInt_lt, Int32.le_iff_toInt_le, ← Int32.toInt_inj, Int32.reduceToInt, nI_toInt] at c1RephasMonth c5RephasMonth c1Ledwrite c4Ledwrite c7Ledwrite c10Ledwrite c14Ledwrite m2MDisIn m5MDisIn m2MDisIn_2 m5MDisIn_2 m2MDisIn_3 m5MDisIn_3; done)
                                      | (exfalso; simp (disch := omega) only [Int32.lt_iff_toInt_lt, Int32.le_iff_toInt_le, ← Int32.toInt_inj, Int32.reduceToInt, nI_toInt] at c1RephasMonth c5RephasMonth c1Ledwrite c4Ledwrite c7Ledwrite c10Ledwrite c14Ledwrite m2MDisIn m5MDisIn m2MDisIn_2 m5MDisIn_2 m2MDisIn_3 m5MDisIn_3; omega)
                                  · refine jr_ic rfl ?_
                                    refine jr_goto rfl ?_
                                    refine jr_zret rfl rfl rfl (Nat.zero_le _) (Nat.zero_le _) ?_
                                    refine jr_if_eq rfl (fun z => absurd z (by decide)) (fun _ => ?_)
                                    refine jr_aload rfl rfl ?_
                                    refine jr_getI rfl rfl ?_
                                    refine jr_ic rfl ?_
                                    refine jr_icmp_ne rfl (fun m24 => ?_) (fun m24 => ?_)
                                    · refine jr_aload rfl rfl ?_
                                      refine jr_getR rfl rfl rfl rfl (Or.inl rfl) ?_
                                      refine jr_aload rfl rfl ?_
                                      refine jr_getI rfl rfl ?_
                                      refine jr_iload rfl rfl ?_
                                      refine jr_iast (len := 30) rfl rfl e3 (by omega) ?_
                                      refine jr_aload rfl rfl ?_
                                      refine jr_getR rfl rfl rfl rfl (Or.inl rfl) ?_
                                      refine jr_aload rfl rfl ?_
                                      refine jr_getI rfl rfl ?_
                                      refine jr_iload rfl rfl ?_
                                      refine jr_iast (len := 30) rfl rfl e3 (by omega) ?_
                                      refine jr_aload rfl rfl ?_
                                      refine jr_getR rfl rfl rfl rfl (Or.inl rfl) ?_
                                      refine jr_aload rfl rfl ?_
                                      refine jr_getI rfl rfl ?_
                                      refine jr_iload rfl rfl ?_
                                      refine jr_iast (len := 30) rfl rfl e3 (by omega) ?_
                                      refine jr_aload rfl rfl ?_
                                      refine jr_getR rfl rfl rfl rfl (Or.inl rfl) ?_
                                      refine jr_aload rfl rfl ?_
                                      refine jr_getI rfl rfl ?_
                                      refine jr_aload rfl rfl ?_
                                      refine jr_getI rfl rfl ?_
                                      refine jr_iast (len := 30) rfl rfl e3 (by omega) ?_
                                      refine jr_aload rfl rfl ?_
                                      refine jr_getR rfl rfl rfl rfl (Or.inl rfl) ?_
                                      refine jr_aload rfl rfl ?_
                                      refine jr_getI rfl rfl ?_
                                      refine jr_ic rfl ?_
                                      refine jr_iast (len := 30) rfl rfl e3 (by omega) ?_
                                      refine jr_aload rfl rfl ?_
                                      refine jr_dup_r rfl ?_
                                      refine jr_getI rfl rfl ?_
                                      refine jr_ic rfl ?_
                                      refine jr_iadd rfl ?_
                                      refine jr_putI rfl rfl ?_
                                      refine jr_aload rfl rfl ?_
                                      refine jr_getI rfl rfl ?_
                                      refine jr_ic rfl ?_
                                      refine jr_isub rfl ?_
                                      refine jr_iret rfl rfl (Nat.zero_le _) (Nat.zero_le _) ?_
                                      exact ⟨congrArg (fun z => some (jv_i (z + 1 - 1))) (e2.trans e3.symm), jz_Rel_wr (n := n) (q := q) (m := m) (e := e) (t := t) ⟨hw, hG, hr2, hto, hsp, hR, hA, hL⟩ hTa hFa hLy ⟨t, i1, i2, i3⟩ hBo hAc hWo e4 (by omega) (by omega) hm1 (by omega) (by omega) i2 i3 (show jh_I hc 4 0 4 + 1 = nI (n + 1) by rw [e2, jn_S]) (show jh_I hm 11 0 80 + 1 = nI (n + 1) by rw [e3, jn_S])⟩
                                    · refine jr_ic rfl ?_
                                      refine jr_iret rfl rfl (Nat.zero_le _) (Nat.zero_le _) ?_
                                      first
                                        | exact ⟨rfl, hRel0⟩
                                        | (exfalso; omega)
                                        | (exfalso; simp (disch := omega) only [Int32.lt_iff_toInt_lt, Int32.le_iff_toInt_le, ← Int32.toInt_inj, Int32.reduceToInt, nI_toInt] at c1RephasMonth c5RephasMonth c1Ledwrite c4Ledwrite c7Ledwrite c10Ledwrite c14Ledwrite m2MDisIn m5MDisIn m2MDisIn_2 m5MDisIn_2 m2MDisIn_3 m5MDisIn_3 m24; done)
                                        | (exfalso; simp (disch := omega) only [Int32.lt_iff_toInt_lt, Int32.le_iff_toInt_le, ← Int32.toInt_inj, Int32.reduceToInt, nI_toInt] at c1RephasMonth c5RephasMonth c1Ledwrite c4Ledwrite c7Ledwrite c10Ledwrite c14Ledwrite m2MDisIn m5MDisIn m2MDisIn_2 m5MDisIn_2 m2MDisIn_3 m5MDisIn_3 m24; omega)
                      · refine jr_ic rfl ?_
                        refine jr_iret rfl rfl (Nat.zero_le _) (Nat.zero_le _) ?_
                        refine jr_iret rfl rfl (Nat.zero_le _) (Nat.zero_le _) ?_
                        show jx_W (jm_MD_ledger, d + 40, 0, 0, false, 1, _) _ 0 0 0 [some _, some _, some _, some _] [] _
                        refine jr_iload rfl rfl ?_
                        refine jr_ic rfl ?_
                        refine jr_ic rfl ?_
                        refine jr_cs3 (mc' := 0) (ms' := 0) rfl jm_MD_isIn_n jm_MD_isIn_f rfl rfl rfl rfl rfl (Nat.zero_le _) (Nat.zero_le _) ?_
                        show jx_W (jm_MD_isIn, _, _, _, _, _, _) _ 0 0 0 [some _, some _, some _] [] _
                        refine jr_iload rfl rfl ?_
                        refine jr_iload rfl rfl ?_
                        refine jr_icmp_lt rfl (fun m2MDisIn => ?_) (fun m2MDisIn => ?_)
                        · refine jr_ic rfl ?_
                          refine jr_zret rfl rfl rfl (Nat.zero_le _) (Nat.zero_le _) ?_
                          refine jr_if_eq rfl (fun _ => ?_) (fun z => absurd (by decide) z)
                          refine jr_ic rfl ?_
                          refine jr_iret rfl rfl (Nat.zero_le _) (Nat.zero_le _) ?_
                          first
                            | exact ⟨rfl, hRel0⟩
                            | (exfalso; omega)
                            | (exfalso; simp (disch := omega) only [Int32.lt_iff_toInt_lt, Int32.le_iff_toInt_le, ← Int32.toInt_inj, Int32.reduceToInt, nI_toInt] at c1RephasMonth c5RephasMonth c1Ledwrite c4Ledwrite c7Ledwrite c10Ledwrite c14Ledwrite m2MDisIn; done)
                            | (exfalso; simp (disch := omega) only [Int32.lt_iff_toInt_lt, Int32.le_iff_toInt_le, ← Int32.toInt_inj, Int32.reduceToInt, nI_toInt] at c1RephasMonth c5RephasMonth c1Ledwrite c4Ledwrite c7Ledwrite c10Ledwrite c14Ledwrite m2MDisIn; omega)
                        · refine jr_iload rfl rfl ?_
                          refine jr_iload rfl rfl ?_
                          refine jr_icmp_gt rfl (fun m5MDisIn => ?_) (fun m5MDisIn => ?_)
                          · refine jr_ic rfl ?_
                            refine jr_zret rfl rfl rfl (Nat.zero_le _) (Nat.zero_le _) ?_
                            refine jr_if_eq rfl (fun _ => ?_) (fun z => absurd (by decide) z)
                            refine jr_ic rfl ?_
                            refine jr_iret rfl rfl (Nat.zero_le _) (Nat.zero_le _) ?_
                            first
                              | exact ⟨rfl, hRel0⟩
                              | (exfalso; omega)
                              | (exfalso; simp (disch := omega) only [Int32.lt_iff_toInt_lt, Int32.le_iff_toInt_le, ← Int32.toInt_inj, Int32.reduceToInt, nI_toInt] at c1RephasMonth c5RephasMonth c1Ledwrite c4Ledwrite c7Ledwrite c10Ledwrite c14Ledwrite m2MDisIn m5MDisIn; done)
                              | (exfalso; simp (disch := omega) only [Int32.lt_iff_toInt_lt, Int32.le_iff_toInt_le, ← Int32.toInt_inj, Int32.reduceToInt, nI_toInt] at c1RephasMonth c5RephasMonth c1Ledwrite c4Ledwrite c7Ledwrite c10Ledwrite c14Ledwrite m2MDisIn m5MDisIn; omega)
                          · refine jr_ic rfl ?_
                            refine jr_goto rfl ?_
                            refine jr_zret rfl rfl rfl (Nat.zero_le _) (Nat.zero_le _) ?_
                            refine jr_if_eq rfl (fun z => absurd z (by decide)) (fun _ => ?_)
                            refine jr_iload rfl rfl ?_
                            refine jr_ic rfl ?_
                            refine jr_aload rfl rfl ?_
                            refine jr_getR rfl rfl rfl rfl (Or.inl rfl) ?_
                            refine jr_aload rfl rfl ?_
                            refine jr_getI rfl rfl ?_
                            refine jr_iald (len := 2) rfl rfl hw.1 (by omega) ?_
                            refine jr_ic rfl ?_
                            refine jr_isub rfl ?_
                            refine jr_cs3 (mc' := 0) (ms' := 0) rfl jm_MD_isIn_n jm_MD_isIn_f rfl rfl rfl rfl rfl (Nat.zero_le _) (Nat.zero_le _) ?_
                            show jx_W (jm_MD_isIn, _, _, _, _, _, _) _ 0 0 0 [some _, some _, some _] [] _
                            refine jr_iload rfl rfl ?_
                            refine jr_iload rfl rfl ?_
                            refine jr_icmp_lt rfl (fun m2MDisIn_2 => ?_) (fun m2MDisIn_2 => ?_)
                            · refine jr_ic rfl ?_
                              refine jr_zret rfl rfl rfl (Nat.zero_le _) (Nat.zero_le _) ?_
                              refine jr_if_eq rfl (fun _ => ?_) (fun z => absurd (by decide) z)
                              refine jr_ic rfl ?_
                              refine jr_iret rfl rfl (Nat.zero_le _) (Nat.zero_le _) ?_
                              first
                                | exact ⟨rfl, hRel0⟩
                                | (exfalso; omega)
                                | (exfalso; simp (disch := omega) only [Int32.lt_iff_toInt_lt, Int32.le_iff_toInt_le, ← Int32.toInt_inj, Int32.reduceToInt, nI_toInt] at c1RephasMonth c5RephasMonth c1Ledwrite c4Ledwrite c7Ledwrite c10Ledwrite c14Ledwrite m2MDisIn m5MDisIn m2MDisIn_2; done)
                                | (exfalso; simp (disch := omega) only [Int32.lt_iff_toInt_lt, Int32.le_iff_toInt_le, ← Int32.toInt_inj, Int32.reduceToInt, nI_toInt] at c1RephasMonth c5RephasMonth c1Ledwrite c4Ledwrite c7Ledwrite c10Ledwrite c14Ledwrite m2MDisIn m5MDisIn m2MDisIn_2; omega)
                            · refine jr_iload rfl rfl ?_
                              refine jr_iload rfl rfl ?_
                              refine jr_icmp_gt rfl (fun m5MDisIn_2 => ?_) (fun m5MDisIn_2 => ?_)
                              · refine jr_ic rfl ?_
                                refine jr_zret rfl rfl rfl (Nat.zero_le _) (Nat.zero_le _) ?_
                                refine jr_if_eq rfl (fun _ => ?_) (fun z => absurd (by decide) z)
                                refine jr_ic rfl ?_
                                refine jr_iret rfl rfl (Nat.zero_le _) (Nat.zero_le _) ?_
                                first
                                  | exact ⟨rfl, hRel0⟩
                                  | (exfalso; omega)
                                  | (exfalso; simp (disch := omega) only [Int32.lt_iff_toInt_lt, Int32.le_iff_toInt_le, ← Int32.toInt_inj, Int32.reduceToInt, nI_toInt] at c1RephasMonth c5RephasMonth c1Ledwrite c4Ledwrite c7Ledwrite c10Ledwrite c14Ledwrite m2MDisIn m5MDisIn m2MDisIn_2 m5MDisIn_2; done)
                                  | (exfalso; simp (disch := omega) only [Int32.lt_iff_toInt_lt, Int32.le_iff_toInt_le, ← Int32.toInt_inj, Int32.reduceToInt, nI_toInt] at c1RephasMonth c5RephasMonth c1Ledwrite c4Ledwrite c7Ledwrite c10Ledwrite c14Ledwrite m2MDisIn m5MDisIn m2MDisIn_2 m5MDisIn_2; omega)
                              · refine jr_ic rfl ?_
                                refine jr_goto rfl ?_
                                refine jr_zret rfl rfl rfl (Nat.zero_le _) (Nat.zero_le _) ?_
                                refine jr_if_eq rfl (fun z => absurd z (by decide)) (fun _ => ?_)
                                refine jr_iload rfl rfl ?_
                                refine jr_ic rfl ?_
                                refine jr_ic rfl ?_
                                refine jr_cs3 (mc' := 0) (ms' := 0) rfl jm_MD_isIn_n jm_MD_isIn_f rfl rfl rfl rfl rfl (Nat.zero_le _) (Nat.zero_le _) ?_
                                show jx_W (jm_MD_isIn, _, _, _, _, _, _) _ 0 0 0 [some _, some _, some _] [] _
                                refine jr_iload rfl rfl ?_
                                refine jr_iload rfl rfl ?_
                                refine jr_icmp_lt rfl (fun m2MDisIn_3 => ?_) (fun m2MDisIn_3 => ?_)
                                · refine jr_ic rfl ?_
                                  refine jr_zret rfl rfl rfl (Nat.zero_le _) (Nat.zero_le _) ?_
                                  refine jr_if_eq rfl (fun _ => ?_) (fun z => absurd (by decide) z)
                                  refine jr_ic rfl ?_
                                  refine jr_iret rfl rfl (Nat.zero_le _) (Nat.zero_le _) ?_
                                  first
                                    | exact ⟨rfl, hRel0⟩
                                    | (exfalso; omega)
                                    | (exfalso; simp (disch := omega) only [Int32.lt_iff_toInt_lt, Int32.le_iff_toInt_le, ← Int32.toInt_inj, Int32.reduceToInt, nI_toInt] at c1RephasMonth c5RephasMonth c1Ledwrite c4Ledwrite c7Ledwrite c10Ledwrite c14Ledwrite m2MDisIn m5MDisIn m2MDisIn_2 m5MDisIn_2 m2MDisIn_3; done)
                                    | (exfalso; simp (disch := omega) only [Int32.lt_iff_toInt_lt, Int32.le_iff_toInt_le, ← Int32.toInt_inj, Int32.reduceToInt, nI_toInt] at c1RephasMonth c5RephasMonth c1Ledwrite c4Ledwrite c7Ledwrite c10Ledwrite c14Ledwrite m2MDisIn m5MDisIn m2MDisIn_2 m5MDisIn_2 m2MDisIn_3; omega)
                                · refine jr_iload rfl rfl ?_
                                  refine jr_iload rfl rfl ?_
                                  refine jr_icmp_gt rfl (fun m5MDisIn_3 => ?_) (fun m5MDisIn_3 => ?_)
                                  · refine jr_ic rfl ?_
                                    refine jr_zret rfl rfl rfl (Nat.zero_le _) (Nat.zero_le _) ?_
                                    refine jr_if_eq rfl (fun _ => ?_) (fun z => absurd (by decide) z)
                                    refine jr_ic rfl ?_
                                    refine jr_iret rfl rfl (Nat.zero_le _) (Nat.zero_le _) ?_
                                    first
                                      | exact ⟨rfl, hRel0⟩
                                      | (exfalso; omega)
                                      | (exfalso; simp (disch := omega) only [Int32.lt_iff_toInt_lt, Int32.le_iff_toInt_le, ← Int32.toInt_inj, Int32.reduceToInt, nI_toInt] at c1RephasMonth c5RephasMonth c1Ledwrite c4Ledwrite c7Ledwrite c10Ledwrite c14Ledwrite m2MDisIn m5MDisIn m2MDisIn_2 m5MDisIn_2 m2MDisIn_3 m5MDisIn_3; done)
                                      | (exfalso; simp (disch := omega) only [Int32.lt_iff_toInt_lt, Int32.le_iff_toInt_le, ← Int32.toInt_inj, Int32.reduceToInt, nI_toInt] at c1RephasMonth c5RephasMonth c1Ledwrite c4Ledwrite c7Ledwrite c10Ledwrite c14Ledwrite m2MDisIn m5MDisIn m2MDisIn_2 m5MDisIn_2 m2MDisIn_3 m5MDisIn_3; omega)
                                  · refine jr_ic rfl ?_
                                    refine jr_goto rfl ?_
                                    refine jr_zret rfl rfl rfl (Nat.zero_le _) (Nat.zero_le _) ?_
                                    refine jr_if_eq rfl (fun z => absurd z (by decide)) (fun _ => ?_)
                                    refine jr_aload rfl rfl ?_
                                    refine jr_getI rfl rfl ?_
                                    refine jr_ic rfl ?_
                                    refine jr_icmp_ne rfl (fun m24 => ?_) (fun m24 => ?_)
                                    · refine jr_aload rfl rfl ?_
                                      refine jr_getR rfl rfl rfl rfl (Or.inl rfl) ?_
                                      refine jr_aload rfl rfl ?_
                                      refine jr_getI rfl rfl ?_
                                      refine jr_iload rfl rfl ?_
                                      refine jr_iast (len := 30) rfl rfl e3 (by omega) ?_
                                      refine jr_aload rfl rfl ?_
                                      refine jr_getR rfl rfl rfl rfl (Or.inl rfl) ?_
                                      refine jr_aload rfl rfl ?_
                                      refine jr_getI rfl rfl ?_
                                      refine jr_iload rfl rfl ?_
                                      refine jr_iast (len := 30) rfl rfl e3 (by omega) ?_
                                      refine jr_aload rfl rfl ?_
                                      refine jr_getR rfl rfl rfl rfl (Or.inl rfl) ?_
                                      refine jr_aload rfl rfl ?_
                                      refine jr_getI rfl rfl ?_
                                      refine jr_iload rfl rfl ?_
                                      refine jr_iast (len := 30) rfl rfl e3 (by omega) ?_
                                      refine jr_aload rfl rfl ?_
                                      refine jr_getR rfl rfl rfl rfl (Or.inl rfl) ?_
                                      refine jr_aload rfl rfl ?_
                                      refine jr_getI rfl rfl ?_
                                      refine jr_aload rfl rfl ?_
                                      refine jr_getI rfl rfl ?_
                                      refine jr_iast (len := 30) rfl rfl e3 (by omega) ?_
                                      refine jr_aload rfl rfl ?_
                                      refine jr_getR rfl rfl rfl rfl (Or.inl rfl) ?_
                                      refine jr_aload rfl rfl ?_
                                      refine jr_getI rfl rfl ?_
                                      refine jr_ic rfl ?_
                                      refine jr_iast (len := 30) rfl rfl e3 (by omega) ?_
                                      refine jr_aload rfl rfl ?_
                                      refine jr_dup_r rfl ?_
                                      refine jr_getI rfl rfl ?_
                                      refine jr_ic rfl ?_
                                      refine jr_iadd rfl ?_
                                      refine jr_putI rfl rfl ?_
                                      refine jr_aload rfl rfl ?_
                                      refine jr_getI rfl rfl ?_
                                      refine jr_ic rfl ?_
                                      refine jr_isub rfl ?_
                                      refine jr_iret rfl rfl (Nat.zero_le _) (Nat.zero_le _) ?_
                                      first
                                        | exact ⟨rfl, hRel0⟩
                                        | (exfalso; omega)
                                        | (exfalso; simp (disch := omega) only [Int32.lt_iff_toInt_lt, Int32.le_iff_toInt_le, ← Int32.toInt_inj, Int32.reduceToInt, nI_toInt] at c1RephasMonth c5RephasMonth c1Ledwrite c4Ledwrite c7Ledwrite c10Ledwrite c14Ledwrite m2MDisIn m5MDisIn m2MDisIn_2 m5MDisIn_2 m2MDisIn_3 m5MDisIn_3 m24; done)
                                        | (exfalso; simp (disch := omega) only [Int32.lt_iff_toInt_lt, Int32.le_iff_toInt_le, ← Int32.toInt_inj, Int32.reduceToInt, nI_toInt] at c1RephasMonth c5RephasMonth c1Ledwrite c4Ledwrite c7Ledwrite c10Ledwrite c14Ledwrite m2MDisIn m5MDisIn m2MDisIn_2 m5MDisIn_2 m2MDisIn_3 m5MDisIn_3 m24; omega)
                                    · refine jr_ic rfl ?_
                                      refine jr_iret rfl rfl (Nat.zero_le _) (Nat.zero_le _) ?_
                                      first
                                        | exact ⟨rfl, hRel0⟩
                                        | (exfalso; omega)
                                        | (exfalso; simp (disch := omega) only [Int32.lt_iff_toInt_lt, Int32.le_iff_toInt_le, ← Int32.toInt_inj, Int32.reduceToInt, nI_toInt] at c1RephasMonth c5RephasMonth c1Ledwrite c4Ledwrite c7Ledwrite c10Ledwrite c14Ledwrite m2MDisIn m5MDisIn m2MDisIn_2 m5MDisIn_2 m2MDisIn_3 m5MDisIn_3 m24; done)
                                        | (exfalso; simp (disch := omega) only [Int32.lt_iff_toInt_lt, Int32.le_iff_toInt_le, ← Int32.toInt_inj, Int32.reduceToInt, nI_toInt] at c1RephasMonth c5RephasMonth c1Ledwrite c4Ledwrite c7Ledwrite c10Ledwrite c14Ledwrite m2MDisIn m5MDisIn m2MDisIn_2 m5MDisIn_2 m2MDisIn_3 m5MDisIn_3 m24; omega)
        · show jx_W (jm_JV_ledger, d + 40, 0, 0, false, 0, _) _ 0 0 0 [some (jv_r 10 0), some (jv_i (nI q)), some (jv_i (nI m)), some (jv_i (nI e))] [] _
          refine jr_aload rfl rfl ?_
          refine jr_getM rfl rfl rfl rfl hto ?_
          refine jr_iload rfl rfl ?_
          refine jr_cv1 (mc' := 0) (ms' := 0) rfl jm_Rep_hasMonth_n jm_Rep_hasMonth_f rfl rfl rfl rfl rfl rfl rfl (Nat.zero_le _) (Nat.zero_le _) ?_
          show jx_W (jm_Rep_hasMonth, _, _, _, _, _, _) _ 0 0 0 [some _, some _] [] _
          refine jr_iload rfl rfl ?_
          refine jr_if_lt rfl (fun c1RephasMonth => ?_) (fun c1RephasMonth => ?_)
          · refine jr_ic rfl ?_
            refine jr_zret rfl rfl rfl (Nat.zero_le _) (Nat.zero_le _) ?_
            refine jr_if_ne rfl (fun z => absurd (by decide) z) (fun _ => ?_)
            refine jr_ic rfl ?_
            refine jr_iret rfl rfl (Nat.zero_le _) (Nat.zero_le _) ?_
            show jx_W (jm_MD_ledger, d + 40, 0, 0, false, 1, _) _ 0 0 0 [some _, some _, some _, some _] [] _
            refine jr_iload rfl rfl ?_
            refine jr_ic rfl ?_
            refine jr_ic rfl ?_
            refine jr_cs3 (mc' := 0) (ms' := 0) rfl jm_MD_isIn_n jm_MD_isIn_f rfl rfl rfl rfl rfl (Nat.zero_le _) (Nat.zero_le _) ?_
            show jx_W (jm_MD_isIn, _, _, _, _, _, _) _ 0 0 0 [some _, some _, some _] [] _
            refine jr_iload rfl rfl ?_
            refine jr_iload rfl rfl ?_
            refine jr_icmp_lt rfl (fun m2MDisIn => ?_) (fun m2MDisIn => ?_)
            · refine jr_ic rfl ?_
              refine jr_zret rfl rfl rfl (Nat.zero_le _) (Nat.zero_le _) ?_
              refine jr_if_eq rfl (fun _ => ?_) (fun z => absurd (by decide) z)
              refine jr_ic rfl ?_
              refine jr_iret rfl rfl (Nat.zero_le _) (Nat.zero_le _) ?_
              first
                | exact ⟨rfl, hRel0⟩
                | (exfalso; omega)
                | (exfalso; simp (disch := omega) only [Int32.lt_iff_toInt_lt, Int32.le_iff_toInt_le, ← Int32.toInt_inj, Int32.reduceToInt, nI_toInt] at c1RephasMonth m2MDisIn; done)
                | (exfalso; simp (disch := omega) only [Int32.lt_iff_toInt_lt, Int32.le_iff_toInt_le, ← Int32.toInt_inj, Int32.reduceToInt, nI_toInt] at c1RephasMonth m2MDisIn; omega)
            · refine jr_iload rfl rfl ?_
              refine jr_iload rfl rfl ?_
              refine jr_icmp_gt rfl (fun m5MDisIn => ?_) (fun m5MDisIn => ?_)
              · refine jr_ic rfl ?_
                refine jr_zret rfl rfl rfl (Nat.zero_le _) (Nat.zero_le _) ?_
                refine jr_if_eq rfl (fun _ => ?_) (fun z => absurd (by decide) z)
                refine jr_ic rfl ?_
                refine jr_iret rfl rfl (Nat.zero_le _) (Nat.zero_le _) ?_
                first
                  | exact ⟨rfl, hRel0⟩
                  | (exfalso; omega)
                  | (exfalso; simp (disch := omega) only [Int32.lt_iff_toInt_lt, Int32.le_iff_toInt_le, ← Int32.toInt_inj, Int32.reduceToInt, nI_toInt] at c1RephasMonth m2MDisIn m5MDisIn; done)
                  | (exfalso; simp (disch := omega) only [Int32.lt_iff_toInt_lt, Int32.le_iff_toInt_le, ← Int32.toInt_inj, Int32.reduceToInt, nI_toInt] at c1RephasMonth m2MDisIn m5MDisIn; omega)
              · refine jr_ic rfl ?_
                refine jr_goto rfl ?_
                refine jr_zret rfl rfl rfl (Nat.zero_le _) (Nat.zero_le _) ?_
                refine jr_if_eq rfl (fun z => absurd z (by decide)) (fun _ => ?_)
                refine jr_iload rfl rfl ?_
                refine jr_ic rfl ?_
                refine jr_aload rfl rfl ?_
                refine jr_getR rfl rfl rfl rfl (Or.inl rfl) ?_
                refine jr_aload rfl rfl ?_
                refine jr_getI rfl rfl ?_
                refine jr_iald (len := 2) rfl rfl hw.1 (by omega) ?_
                refine jr_ic rfl ?_
                refine jr_isub rfl ?_
                refine jr_cs3 (mc' := 0) (ms' := 0) rfl jm_MD_isIn_n jm_MD_isIn_f rfl rfl rfl rfl rfl (Nat.zero_le _) (Nat.zero_le _) ?_
                show jx_W (jm_MD_isIn, _, _, _, _, _, _) _ 0 0 0 [some _, some _, some _] [] _
                refine jr_iload rfl rfl ?_
                refine jr_iload rfl rfl ?_
                refine jr_icmp_lt rfl (fun m2MDisIn_2 => ?_) (fun m2MDisIn_2 => ?_)
                · refine jr_ic rfl ?_
                  refine jr_zret rfl rfl rfl (Nat.zero_le _) (Nat.zero_le _) ?_
                  refine jr_if_eq rfl (fun _ => ?_) (fun z => absurd (by decide) z)
                  refine jr_ic rfl ?_
                  refine jr_iret rfl rfl (Nat.zero_le _) (Nat.zero_le _) ?_
                  first
                    | exact ⟨rfl, hRel0⟩
                    | (exfalso; omega)
                    | (exfalso; simp (disch := omega) only [Int32.lt_iff_toInt_lt, Int32.le_iff_toInt_le, ← Int32.toInt_inj, Int32.reduceToInt, nI_toInt] at c1RephasMonth m2MDisIn m5MDisIn m2MDisIn_2; done)
                    | (exfalso; simp (disch := omega) only [Int32.lt_iff_toInt_lt, Int32.le_iff_toInt_le, ← Int32.toInt_inj, Int32.reduceToInt, nI_toInt] at c1RephasMonth m2MDisIn m5MDisIn m2MDisIn_2; omega)
                · refine jr_iload rfl rfl ?_
                  refine jr_iload rfl rfl ?_
                  refine jr_icmp_gt rfl (fun m5MDisIn_2 => ?_) (fun m5MDisIn_2 => ?_)
                  · refine jr_ic rfl ?_
                    refine jr_zret rfl rfl rfl (Nat.zero_le _) (Nat.zero_le _) ?_
                    refine jr_if_eq rfl (fun _ => ?_) (fun z => absurd (by decide) z)
                    refine jr_ic rfl ?_
                    refine jr_iret rfl rfl (Nat.zero_le _) (Nat.zero_le _) ?_
                    first
                      | exact ⟨rfl, hRel0⟩
                      | (exfalso; omega)
                      | (exfalso; simp (disch := omega) only [Int32.lt_iff_toInt_lt, Int32.le_iff_toInt_le, ← Int32.toInt_inj, Int32.reduceToInt, nI_toInt] at c1RephasMonth m2MDisIn m5MDisIn m2MDisIn_2 m5MDisIn_2; done)
                      | (exfalso; simp (disch := omega) only [Int32.lt_iff_toInt_lt, Int32.le_iff_toInt_le, ← Int32.toInt_inj, Int32.reduceToInt, nI_toInt] at c1RephasMonth m2MDisIn m5MDisIn m2MDisIn_2 m5MDisIn_2; omega)
                  · refine jr_ic rfl ?_
                    refine jr_goto rfl ?_
                    refine jr_zret rfl rfl rfl (Nat.zero_le _) (Nat.zero_le _) ?_
                    refine jr_if_eq rfl (fun z => absurd z (by decide)) (fun _ => ?_)
                    refine jr_iload rfl rfl ?_
                    refine jr_ic rfl ?_
                    refine jr_ic rfl ?_
                    refine jr_cs3 (mc' := 0) (ms' := 0) rfl jm_MD_isIn_n jm_MD_isIn_f rfl rfl rfl rfl rfl (Nat.zero_le _) (Nat.zero_le _) ?_
                    show jx_W (jm_MD_isIn, _, _, _, _, _, _) _ 0 0 0 [some _, some _, some _] [] _
                    refine jr_iload rfl rfl ?_
                    refine jr_iload rfl rfl ?_
                    refine jr_icmp_lt rfl (fun m2MDisIn_3 => ?_) (fun m2MDisIn_3 => ?_)
                    · refine jr_ic rfl ?_
                      refine jr_zret rfl rfl rfl (Nat.zero_le _) (Nat.zero_le _) ?_
                      refine jr_if_eq rfl (fun _ => ?_) (fun z => absurd (by decide) z)
                      refine jr_ic rfl ?_
                      refine jr_iret rfl rfl (Nat.zero_le _) (Nat.zero_le _) ?_
                      first
                        | exact ⟨rfl, hRel0⟩
                        | (exfalso; omega)
                        | (exfalso; simp (disch := omega) only [Int32.lt_iff_toInt_lt, Int32.le_iff_toInt_le, ← Int32.toInt_inj, Int32.reduceToInt, nI_toInt] at c1RephasMonth m2MDisIn m5MDisIn m2MDisIn_2 m5MDisIn_2 m2MDisIn_3; done)
                        | (exfalso; simp (disch := omega) only [Int32.lt_iff_toInt_lt, Int32.le_iff_toInt_le, ← Int32.toInt_inj, Int32.reduceToInt, nI_toInt] at c1RephasMonth m2MDisIn m5MDisIn m2MDisIn_2 m5MDisIn_2 m2MDisIn_3; omega)
                    · refine jr_iload rfl rfl ?_
                      refine jr_iload rfl rfl ?_
                      refine jr_icmp_gt rfl (fun m5MDisIn_3 => ?_) (fun m5MDisIn_3 => ?_)
                      · refine jr_ic rfl ?_
                        refine jr_zret rfl rfl rfl (Nat.zero_le _) (Nat.zero_le _) ?_
                        refine jr_if_eq rfl (fun _ => ?_) (fun z => absurd (by decide) z)
                        refine jr_ic rfl ?_
                        refine jr_iret rfl rfl (Nat.zero_le _) (Nat.zero_le _) ?_
                        first
                          | exact ⟨rfl, hRel0⟩
                          | (exfalso; omega)
                          | (exfalso; simp (disch := omega) only [Int32.lt_iff_toInt_lt, Int32.le_iff_toInt_le, ← Int32.toInt_inj, Int32.reduceToInt, nI_toInt] at c1RephasMonth m2MDisIn m5MDisIn m2MDisIn_2 m5MDisIn_2 m2MDisIn_3 m5MDisIn_3; done)
                          | (exfalso; simp (disch := omega) only [Int32.lt_iff_toInt_lt, Int32.le_iff_toInt_le, ← Int32.toInt_inj, Int32.reduceToInt, nI_toInt] at c1RephasMonth m2MDisIn m5MDisIn m2MDisIn_2 m5MDisIn_2 m2MDisIn_3 m5MDisIn_3; omega)
                      · refine jr_ic rfl ?_
                        refine jr_goto rfl ?_
                        refine jr_zret rfl rfl rfl (Nat.zero_le _) (Nat.zero_le _) ?_
                        refine jr_if_eq rfl (fun z => absurd z (by decide)) (fun _ => ?_)
                        refine jr_aload rfl rfl ?_
                        refine jr_getI rfl rfl ?_
                        refine jr_ic rfl ?_
                        refine jr_icmp_ne rfl (fun m24 => ?_) (fun m24 => ?_)
                        · first
                            | (exfalso; omega)
                            | (exfalso; simp (disch := omega) only [Int32.lt_iff_toInt_lt, Int32.le_iff_toInt_le, ← Int32.toInt_inj, Int32.reduceToInt, nI_toInt] at c1RephasMonth m2MDisIn m5MDisIn m2MDisIn_2 m5MDisIn_2 m2MDisIn_3 m5MDisIn_3 m24; done)
                            | (exfalso; simp (disch := omega) only [Int32.lt_iff_toInt_lt, Int32.le_iff_toInt_le, ← Int32.toInt_inj, Int32.reduceToInt, nI_toInt] at c1RephasMonth m2MDisIn m5MDisIn m2MDisIn_2 m5MDisIn_2 m2MDisIn_3 m5MDisIn_3 m24; omega)
                        · refine jr_ic rfl ?_
                          refine jr_iret rfl rfl (Nat.zero_le _) (Nat.zero_le _) ?_
                          first
                            | exact ⟨rfl, hRel0⟩
                            | (exfalso; omega)
                            | (exfalso; simp (disch := omega) only [Int32.lt_iff_toInt_lt, Int32.le_iff_toInt_le, ← Int32.toInt_inj, Int32.reduceToInt, nI_toInt] at c1RephasMonth m2MDisIn m5MDisIn m2MDisIn_2 m5MDisIn_2 m2MDisIn_3 m5MDisIn_3 m24; done)
                            | (exfalso; simp (disch := omega) only [Int32.lt_iff_toInt_lt, Int32.le_iff_toInt_le, ← Int32.toInt_inj, Int32.reduceToInt, nI_toInt] at c1RephasMonth m2MDisIn m5MDisIn m2MDisIn_2 m5MDisIn_2 m2MDisIn_3 m5MDisIn_3 m24; omega)
          · refine jr_iload rfl rfl ?_
            refine jr_aload rfl rfl ?_
            refine jr_getI rfl rfl ?_
            refine jr_icmp_ge rfl (fun c5RephasMonth => ?_) (fun c5RephasMonth => ?_)
            · refine jr_ic rfl ?_
              refine jr_zret rfl rfl rfl (Nat.zero_le _) (Nat.zero_le _) ?_
              refine jr_if_ne rfl (fun z => absurd (by decide) z) (fun _ => ?_)
              refine jr_ic rfl ?_
              refine jr_iret rfl rfl (Nat.zero_le _) (Nat.zero_le _) ?_
              show jx_W (jm_MD_ledger, d + 40, 0, 0, false, 1, _) _ 0 0 0 [some _, some _, some _, some _] [] _
              refine jr_iload rfl rfl ?_
              refine jr_ic rfl ?_
              refine jr_ic rfl ?_
              refine jr_cs3 (mc' := 0) (ms' := 0) rfl jm_MD_isIn_n jm_MD_isIn_f rfl rfl rfl rfl rfl (Nat.zero_le _) (Nat.zero_le _) ?_
              show jx_W (jm_MD_isIn, _, _, _, _, _, _) _ 0 0 0 [some _, some _, some _] [] _
              refine jr_iload rfl rfl ?_
              refine jr_iload rfl rfl ?_
              refine jr_icmp_lt rfl (fun m2MDisIn => ?_) (fun m2MDisIn => ?_)
              · refine jr_ic rfl ?_
                refine jr_zret rfl rfl rfl (Nat.zero_le _) (Nat.zero_le _) ?_
                refine jr_if_eq rfl (fun _ => ?_) (fun z => absurd (by decide) z)
                refine jr_ic rfl ?_
                refine jr_iret rfl rfl (Nat.zero_le _) (Nat.zero_le _) ?_
                first
                  | exact ⟨rfl, hRel0⟩
                  | (exfalso; omega)
                  | (exfalso; simp (disch := omega) only [Int32.lt_iff_toInt_lt, Int32.le_iff_toInt_le, ← Int32.toInt_inj, Int32.reduceToInt, nI_toInt] at c1RephasMonth c5RephasMonth m2MDisIn; done)
                  | (exfalso; simp (disch := omega) only [Int32.lt_iff_toInt_lt, Int32.le_iff_toInt_le, ← Int32.toInt_inj, Int32.reduceToInt, nI_toInt] at c1RephasMonth c5RephasMonth m2MDisIn; omega)
              · refine jr_iload rfl rfl ?_
                refine jr_iload rfl rfl ?_
                refine jr_icmp_gt rfl (fun m5MDisIn => ?_) (fun m5MDisIn => ?_)
                · refine jr_ic rfl ?_
                  refine jr_zret rfl rfl rfl (Nat.zero_le _) (Nat.zero_le _) ?_
                  refine jr_if_eq rfl (fun _ => ?_) (fun z => absurd (by decide) z)
                  refine jr_ic rfl ?_
                  refine jr_iret rfl rfl (Nat.zero_le _) (Nat.zero_le _) ?_
                  first
                    | exact ⟨rfl, hRel0⟩
                    | (exfalso; omega)
                    | (exfalso; simp (disch := omega) only [Int32.lt_iff_toInt_lt, Int32.le_iff_toInt_le, ← Int32.toInt_inj, Int32.reduceToInt, nI_toInt] at c1RephasMonth c5RephasMonth m2MDisIn m5MDisIn; done)
                    | (exfalso; simp (disch := omega) only [Int32.lt_iff_toInt_lt, Int32.le_iff_toInt_le, ← Int32.toInt_inj, Int32.reduceToInt, nI_toInt] at c1RephasMonth c5RephasMonth m2MDisIn m5MDisIn; omega)
                · refine jr_ic rfl ?_
                  refine jr_goto rfl ?_
                  refine jr_zret rfl rfl rfl (Nat.zero_le _) (Nat.zero_le _) ?_
                  refine jr_if_eq rfl (fun z => absurd z (by decide)) (fun _ => ?_)
                  refine jr_iload rfl rfl ?_
                  refine jr_ic rfl ?_
                  refine jr_aload rfl rfl ?_
                  refine jr_getR rfl rfl rfl rfl (Or.inl rfl) ?_
                  refine jr_aload rfl rfl ?_
                  refine jr_getI rfl rfl ?_
                  refine jr_iald (len := 2) rfl rfl hw.1 (by omega) ?_
                  refine jr_ic rfl ?_
                  refine jr_isub rfl ?_
                  refine jr_cs3 (mc' := 0) (ms' := 0) rfl jm_MD_isIn_n jm_MD_isIn_f rfl rfl rfl rfl rfl (Nat.zero_le _) (Nat.zero_le _) ?_
                  show jx_W (jm_MD_isIn, _, _, _, _, _, _) _ 0 0 0 [some _, some _, some _] [] _
                  refine jr_iload rfl rfl ?_
                  refine jr_iload rfl rfl ?_
                  refine jr_icmp_lt rfl (fun m2MDisIn_2 => ?_) (fun m2MDisIn_2 => ?_)
                  · refine jr_ic rfl ?_
                    refine jr_zret rfl rfl rfl (Nat.zero_le _) (Nat.zero_le _) ?_
                    refine jr_if_eq rfl (fun _ => ?_) (fun z => absurd (by decide) z)
                    refine jr_ic rfl ?_
                    refine jr_iret rfl rfl (Nat.zero_le _) (Nat.zero_le _) ?_
                    first
                      | exact ⟨rfl, hRel0⟩
                      | (exfalso; omega)
                      | (exfalso; simp (disch := omega) only [Int32.lt_iff_toInt_lt, Int32.le_iff_toInt_le, ← Int32.toInt_inj, Int32.reduceToInt, nI_toInt] at c1RephasMonth c5RephasMonth m2MDisIn m5MDisIn m2MDisIn_2; done)
                      | (exfalso; simp (disch := omega) only [Int32.lt_iff_toInt_lt, Int32.le_iff_toInt_le, ← Int32.toInt_inj, Int32.reduceToInt, nI_toInt] at c1RephasMonth c5RephasMonth m2MDisIn m5MDisIn m2MDisIn_2; omega)
                  · refine jr_iload rfl rfl ?_
                    refine jr_iload rfl rfl ?_
                    refine jr_icmp_gt rfl (fun m5MDisIn_2 => ?_) (fun m5MDisIn_2 => ?_)
                    · refine jr_ic rfl ?_
                      refine jr_zret rfl rfl rfl (Nat.zero_le _) (Nat.zero_le _) ?_
                      refine jr_if_eq rfl (fun _ => ?_) (fun z => absurd (by decide) z)
                      refine jr_ic rfl ?_
                      refine jr_iret rfl rfl (Nat.zero_le _) (Nat.zero_le _) ?_
                      first
                        | exact ⟨rfl, hRel0⟩
                        | (exfalso; omega)
                        | (exfalso; simp (disch := omega) only [Int32.lt_iff_toInt_lt, Int32.le_iff_toInt_le, ← Int32.toInt_inj, Int32.reduceToInt, nI_toInt] at c1RephasMonth c5RephasMonth m2MDisIn m5MDisIn m2MDisIn_2 m5MDisIn_2; done)
                        | (exfalso; simp (disch := omega) only [Int32.lt_iff_toInt_lt, Int32.le_iff_toInt_le, ← Int32.toInt_inj, Int32.reduceToInt, nI_toInt] at c1RephasMonth c5RephasMonth m2MDisIn m5MDisIn m2MDisIn_2 m5MDisIn_2; omega)
                    · refine jr_ic rfl ?_
                      refine jr_goto rfl ?_
                      refine jr_zret rfl rfl rfl (Nat.zero_le _) (Nat.zero_le _) ?_
                      refine jr_if_eq rfl (fun z => absurd z (by decide)) (fun _ => ?_)
                      refine jr_iload rfl rfl ?_
                      refine jr_ic rfl ?_
                      refine jr_ic rfl ?_
                      refine jr_cs3 (mc' := 0) (ms' := 0) rfl jm_MD_isIn_n jm_MD_isIn_f rfl rfl rfl rfl rfl (Nat.zero_le _) (Nat.zero_le _) ?_
                      show jx_W (jm_MD_isIn, _, _, _, _, _, _) _ 0 0 0 [some _, some _, some _] [] _
                      refine jr_iload rfl rfl ?_
                      refine jr_iload rfl rfl ?_
                      refine jr_icmp_lt rfl (fun m2MDisIn_3 => ?_) (fun m2MDisIn_3 => ?_)
                      · refine jr_ic rfl ?_
                        refine jr_zret rfl rfl rfl (Nat.zero_le _) (Nat.zero_le _) ?_
                        refine jr_if_eq rfl (fun _ => ?_) (fun z => absurd (by decide) z)
                        refine jr_ic rfl ?_
                        refine jr_iret rfl rfl (Nat.zero_le _) (Nat.zero_le _) ?_
                        first
                          | exact ⟨rfl, hRel0⟩
                          | (exfalso; omega)
                          | (exfalso; simp (disch := omega) only [Int32.lt_iff_toInt_lt, Int32.le_iff_toInt_le, ← Int32.toInt_inj, Int32.reduceToInt, nI_toInt] at c1RephasMonth c5RephasMonth m2MDisIn m5MDisIn m2MDisIn_2 m5MDisIn_2 m2MDisIn_3; done)
                          | (exfalso; simp (disch := omega) only [Int32.lt_iff_toInt_lt, Int32.le_iff_toInt_le, ← Int32.toInt_inj, Int32.reduceToInt, nI_toInt] at c1RephasMonth c5RephasMonth m2MDisIn m5MDisIn m2MDisIn_2 m5MDisIn_2 m2MDisIn_3; omega)
                      · refine jr_iload rfl rfl ?_
                        refine jr_iload rfl rfl ?_
                        refine jr_icmp_gt rfl (fun m5MDisIn_3 => ?_) (fun m5MDisIn_3 => ?_)
                        · refine jr_ic rfl ?_
                          refine jr_zret rfl rfl rfl (Nat.zero_le _) (Nat.zero_le _) ?_
                          refine jr_if_eq rfl (fun _ => ?_) (fun z => absurd (by decide) z)
                          refine jr_ic rfl ?_
                          refine jr_iret rfl rfl (Nat.zero_le _) (Nat.zero_le _) ?_
                          first
                            | exact ⟨rfl, hRel0⟩
                            | (exfalso; omega)
                            | (exfalso; simp (disch := omega) only [Int32.lt_iff_toInt_lt, Int32.le_iff_toInt_le, ← Int32.toInt_inj, Int32.reduceToInt, nI_toInt] at c1RephasMonth c5RephasMonth m2MDisIn m5MDisIn m2MDisIn_2 m5MDisIn_2 m2MDisIn_3 m5MDisIn_3; done)
                            | (exfalso; simp (disch := omega) only [Int32.lt_iff_toInt_lt, Int32.le_iff_toInt_le, ← Int32.toInt_inj, Int32.reduceToInt, nI_toInt] at c1RephasMonth c5RephasMonth m2MDisIn m5MDisIn m2MDisIn_2 m5MDisIn_2 m2MDisIn_3 m5MDisIn_3; omega)
                        · refine jr_ic rfl ?_
                          refine jr_goto rfl ?_
                          refine jr_zret rfl rfl rfl (Nat.zero_le _) (Nat.zero_le _) ?_
                          refine jr_if_eq rfl (fun z => absurd z (by decide)) (fun _ => ?_)
                          refine jr_aload rfl rfl ?_
                          refine jr_getI rfl rfl ?_
                          refine jr_ic rfl ?_
                          refine jr_icmp_ne rfl (fun m24 => ?_) (fun m24 => ?_)
                          · first
                              | (exfalso; omega)
                              | (exfalso; simp (disch := omega) only [Int32.lt_iff_toInt_lt, Int32.le_iff_toInt_le, ← Int32.toInt_inj, Int32.reduceToInt, nI_toInt] at c1RephasMonth c5RephasMonth m2MDisIn m5MDisIn m2MDisIn_2 m5MDisIn_2 m2MDisIn_3 m5MDisIn_3 m24; done)
                              | (exfalso; simp (disch := omega) only [Int32.lt_iff_toInt_lt, Int32.le_iff_toInt_le, ← Int32.toInt_inj, Int32.reduceToInt, nI_toInt] at c1RephasMonth c5RephasMonth m2MDisIn m5MDisIn m2MDisIn_2 m5MDisIn_2 m2MDisIn_3 m5MDisIn_3 m24; omega)
                          · refine jr_ic rfl ?_
                            refine jr_iret rfl rfl (Nat.zero_le _) (Nat.zero_le _) ?_
                            first
                              | exact ⟨rfl, hRel0⟩
                              | (exfalso; omega)
                              | (exfalso; simp (disch := omega) only [Int32.lt_iff_toInt_lt, Int32.le_iff_toInt_le, ← Int32.toInt_inj, Int32.reduceToInt, nI_toInt] at c1RephasMonth c5RephasMonth m2MDisIn m5MDisIn m2MDisIn_2 m5MDisIn_2 m2MDisIn_3 m5MDisIn_3 m24; done)
                              | (exfalso; simp (disch := omega) only [Int32.lt_iff_toInt_lt, Int32.le_iff_toInt_le, ← Int32.toInt_inj, Int32.reduceToInt, nI_toInt] at c1RephasMonth c5RephasMonth m2MDisIn m5MDisIn m2MDisIn_2 m5MDisIn_2 m2MDisIn_3 m5MDisIn_3 m24; omega)
            · refine jr_ic rfl ?_
              refine jr_goto rfl ?_
              refine jr_zret rfl rfl rfl (Nat.zero_le _) (Nat.zero_le _) ?_
              refine jr_if_ne rfl (fun _ => ?_) (fun z => absurd z (by decide))
              refine jr_aload rfl rfl ?_
              refine jr_getR rfl rfl rfl rfl (Or.inl rfl) ?_
              refine jr_iload rfl rfl ?_
              refine jr_iload rfl rfl ?_
              refine jr_iload rfl rfl ?_
              refine jr_aload rfl rfl ?_
              refine jr_getI rfl rfl ?_
              refine jr_cv4 (mc' := 0) (ms' := 0) rfl jm_Led_write_n jm_Led_write_f rfl rfl rfl rfl rfl rfl rfl (Nat.zero_le _) (Nat.zero_le _) ?_
              show jx_W (jm_Led_write, _, _, _, _, _, _) _ 0 0 0 [some _, some _, some _, some _, some _] [] _
              refine jr_iload rfl rfl ?_
              refine jr_if_lt rfl (fun c1Ledwrite => ?_) (fun c1Ledwrite => ?_)
              · refine jr_ic rfl ?_
                refine jr_iret rfl rfl (Nat.zero_le _) (Nat.zero_le _) ?_
                refine jr_iret rfl rfl (Nat.zero_le _) (Nat.zero_le _) ?_
                show jx_W (jm_MD_ledger, d + 40, 0, 0, false, 1, _) _ 0 0 0 [some _, some _, some _, some _] [] _
                refine jr_iload rfl rfl ?_
                refine jr_ic rfl ?_
                refine jr_ic rfl ?_
                refine jr_cs3 (mc' := 0) (ms' := 0) rfl jm_MD_isIn_n jm_MD_isIn_f rfl rfl rfl rfl rfl (Nat.zero_le _) (Nat.zero_le _) ?_
                show jx_W (jm_MD_isIn, _, _, _, _, _, _) _ 0 0 0 [some _, some _, some _] [] _
                refine jr_iload rfl rfl ?_
                refine jr_iload rfl rfl ?_
                refine jr_icmp_lt rfl (fun m2MDisIn => ?_) (fun m2MDisIn => ?_)
                · refine jr_ic rfl ?_
                  refine jr_zret rfl rfl rfl (Nat.zero_le _) (Nat.zero_le _) ?_
                  refine jr_if_eq rfl (fun _ => ?_) (fun z => absurd (by decide) z)
                  refine jr_ic rfl ?_
                  refine jr_iret rfl rfl (Nat.zero_le _) (Nat.zero_le _) ?_
                  first
                    | exact ⟨rfl, hRel0⟩
                    | (exfalso; omega)
                    | (exfalso; simp (disch := omega) only [Int32.lt_iff_toInt_lt, Int32.le_iff_toInt_le, ← Int32.toInt_inj, Int32.reduceToInt, nI_toInt] at c1RephasMonth c5RephasMonth c1Ledwrite m2MDisIn; done)
                    | (exfalso; simp (disch := omega) only [Int32.lt_iff_toInt_lt, Int32.le_iff_toInt_le, ← Int32.toInt_inj, Int32.reduceToInt, nI_toInt] at c1RephasMonth c5RephasMonth c1Ledwrite m2MDisIn; omega)
                · refine jr_iload rfl rfl ?_
                  refine jr_iload rfl rfl ?_
                  refine jr_icmp_gt rfl (fun m5MDisIn => ?_) (fun m5MDisIn => ?_)
                  · refine jr_ic rfl ?_
                    refine jr_zret rfl rfl rfl (Nat.zero_le _) (Nat.zero_le _) ?_
                    refine jr_if_eq rfl (fun _ => ?_) (fun z => absurd (by decide) z)
                    refine jr_ic rfl ?_
                    refine jr_iret rfl rfl (Nat.zero_le _) (Nat.zero_le _) ?_
                    first
                      | exact ⟨rfl, hRel0⟩
                      | (exfalso; omega)
                      | (exfalso; simp (disch := omega) only [Int32.lt_iff_toInt_lt, Int32.le_iff_toInt_le, ← Int32.toInt_inj, Int32.reduceToInt, nI_toInt] at c1RephasMonth c5RephasMonth c1Ledwrite m2MDisIn m5MDisIn; done)
                      | (exfalso; simp (disch := omega) only [Int32.lt_iff_toInt_lt, Int32.le_iff_toInt_le, ← Int32.toInt_inj, Int32.reduceToInt, nI_toInt] at c1RephasMonth c5RephasMonth c1Ledwrite m2MDisIn m5MDisIn; omega)
                  · refine jr_ic rfl ?_
                    refine jr_goto rfl ?_
                    refine jr_zret rfl rfl rfl (Nat.zero_le _) (Nat.zero_le _) ?_
                    refine jr_if_eq rfl (fun z => absurd z (by decide)) (fun _ => ?_)
                    refine jr_iload rfl rfl ?_
                    refine jr_ic rfl ?_
                    refine jr_aload rfl rfl ?_
                    refine jr_getR rfl rfl rfl rfl (Or.inl rfl) ?_
                    refine jr_aload rfl rfl ?_
                    refine jr_getI rfl rfl ?_
                    refine jr_iald (len := 2) rfl rfl hw.1 (by omega) ?_
                    refine jr_ic rfl ?_
                    refine jr_isub rfl ?_
                    refine jr_cs3 (mc' := 0) (ms' := 0) rfl jm_MD_isIn_n jm_MD_isIn_f rfl rfl rfl rfl rfl (Nat.zero_le _) (Nat.zero_le _) ?_
                    show jx_W (jm_MD_isIn, _, _, _, _, _, _) _ 0 0 0 [some _, some _, some _] [] _
                    refine jr_iload rfl rfl ?_
                    refine jr_iload rfl rfl ?_
                    refine jr_icmp_lt rfl (fun m2MDisIn_2 => ?_) (fun m2MDisIn_2 => ?_)
                    · refine jr_ic rfl ?_
                      refine jr_zret rfl rfl rfl (Nat.zero_le _) (Nat.zero_le _) ?_
                      refine jr_if_eq rfl (fun _ => ?_) (fun z => absurd (by decide) z)
                      refine jr_ic rfl ?_
                      refine jr_iret rfl rfl (Nat.zero_le _) (Nat.zero_le _) ?_
                      first
                        | exact ⟨rfl, hRel0⟩
                        | (exfalso; omega)
                        | (exfalso; simp (disch := omega) only [Int32.lt_iff_toInt_lt, Int32.le_iff_toInt_le, ← Int32.toInt_inj, Int32.reduceToInt, nI_toInt] at c1RephasMonth c5RephasMonth c1Ledwrite m2MDisIn m5MDisIn m2MDisIn_2; done)
                        | (exfalso; simp (disch := omega) only [Int32.lt_iff_toInt_lt, Int32.le_iff_toInt_le, ← Int32.toInt_inj, Int32.reduceToInt, nI_toInt] at c1RephasMonth c5RephasMonth c1Ledwrite m2MDisIn m5MDisIn m2MDisIn_2; omega)
                    · refine jr_iload rfl rfl ?_
                      refine jr_iload rfl rfl ?_
                      refine jr_icmp_gt rfl (fun m5MDisIn_2 => ?_) (fun m5MDisIn_2 => ?_)
                      · refine jr_ic rfl ?_
                        refine jr_zret rfl rfl rfl (Nat.zero_le _) (Nat.zero_le _) ?_
                        refine jr_if_eq rfl (fun _ => ?_) (fun z => absurd (by decide) z)
                        refine jr_ic rfl ?_
                        refine jr_iret rfl rfl (Nat.zero_le _) (Nat.zero_le _) ?_
                        first
                          | exact ⟨rfl, hRel0⟩
                          | (exfalso; omega)
                          | (exfalso; simp (disch := omega) only [Int32.lt_iff_toInt_lt, Int32.le_iff_toInt_le, ← Int32.toInt_inj, Int32.reduceToInt, nI_toInt] at c1RephasMonth c5RephasMonth c1Ledwrite m2MDisIn m5MDisIn m2MDisIn_2 m5MDisIn_2; done)
                          | (exfalso; simp (disch := omega) only [Int32.lt_iff_toInt_lt, Int32.le_iff_toInt_le, ← Int32.toInt_inj, Int32.reduceToInt, nI_toInt] at c1RephasMonth c5RephasMonth c1Ledwrite m2MDisIn m5MDisIn m2MDisIn_2 m5MDisIn_2; omega)
                      · refine jr_ic rfl ?_
                        refine jr_goto rfl ?_
                        refine jr_zret rfl rfl rfl (Nat.zero_le _) (Nat.zero_le _) ?_
                        refine jr_if_eq rfl (fun z => absurd z (by decide)) (fun _ => ?_)
                        refine jr_iload rfl rfl ?_
                        refine jr_ic rfl ?_
                        refine jr_ic rfl ?_
                        refine jr_cs3 (mc' := 0) (ms' := 0) rfl jm_MD_isIn_n jm_MD_isIn_f rfl rfl rfl rfl rfl (Nat.zero_le _) (Nat.zero_le _) ?_
                        show jx_W (jm_MD_isIn, _, _, _, _, _, _) _ 0 0 0 [some _, some _, some _] [] _
                        refine jr_iload rfl rfl ?_
                        refine jr_iload rfl rfl ?_
                        refine jr_icmp_lt rfl (fun m2MDisIn_3 => ?_) (fun m2MDisIn_3 => ?_)
                        · refine jr_ic rfl ?_
                          refine jr_zret rfl rfl rfl (Nat.zero_le _) (Nat.zero_le _) ?_
                          refine jr_if_eq rfl (fun _ => ?_) (fun z => absurd (by decide) z)
                          refine jr_ic rfl ?_
                          refine jr_iret rfl rfl (Nat.zero_le _) (Nat.zero_le _) ?_
                          first
                            | exact ⟨rfl, hRel0⟩
                            | (exfalso; omega)
                            | (exfalso; simp (disch := omega) only [Int32.lt_iff_toInt_lt, Int32.le_iff_toInt_le, ← Int32.toInt_inj, Int32.reduceToInt, nI_toInt] at c1RephasMonth c5RephasMonth c1Ledwrite m2MDisIn m5MDisIn m2MDisIn_2 m5MDisIn_2 m2MDisIn_3; done)
                            | (exfalso; simp (disch := omega) only [Int32.lt_iff_toInt_lt, Int32.le_iff_toInt_le, ← Int32.toInt_inj, Int32.reduceToInt, nI_toInt] at c1RephasMonth c5RephasMonth c1Ledwrite m2MDisIn m5MDisIn m2MDisIn_2 m5MDisIn_2 m2MDisIn_3; omega)
                        · refine jr_iload rfl rfl ?_
                          refine jr_iload rfl rfl ?_
                          refine jr_icmp_gt rfl (fun m5MDisIn_3 => ?_) (fun m5MDisIn_3 => ?_)
                          · refine jr_ic rfl ?_
                            refine jr_zret rfl rfl rfl (Nat.zero_le _) (Nat.zero_le _) ?_
                            refine jr_if_eq rfl (fun _ => ?_) (fun z => absurd (by decide) z)
                            refine jr_ic rfl ?_
                            refine jr_iret rfl rfl (Nat.zero_le _) (Nat.zero_le _) ?_
                            first
                              | exact ⟨rfl, hRel0⟩
                              | (exfalso; omega)
                              | (exfalso; simp (disch := omega) only [Int32.lt_iff_toInt_lt, Int32.le_iff_toInt_le, ← Int32.toInt_inj, Int32.reduceToInt, nI_toInt] at c1RephasMonth c5RephasMonth c1Ledwrite m2MDisIn m5MDisIn m2MDisIn_2 m5MDisIn_2 m2MDisIn_3 m5MDisIn_3; done)
                              | (exfalso; simp (disch := omega) only [Int32.lt_iff_toInt_lt, Int32.le_iff_toInt_le, ← Int32.toInt_inj, Int32.reduceToInt, nI_toInt] at c1RephasMonth c5RephasMonth c1Ledwrite m2MDisIn m5MDisIn m2MDisIn_2 m5MDisIn_2 m2MDisIn_3 m5MDisIn_3; omega)
                          · refine jr_ic rfl ?_
                            refine jr_goto rfl ?_
                            refine jr_zret rfl rfl rfl (Nat.zero_le _) (Nat.zero_le _) ?_
                            refine jr_if_eq rfl (fun z => absurd z (by decide)) (fun _ => ?_)
                            refine jr_aload rfl rfl ?_
                            refine jr_getI rfl rfl ?_
                            refine jr_ic rfl ?_
                            refine jr_icmp_ne rfl (fun m24 => ?_) (fun m24 => ?_)
                            · first
                                | (exfalso; omega)
                                | (exfalso; simp (disch := omega) only [Int32.lt_iff_toInt_lt, Int32.le_iff_toInt_le, ← Int32.toInt_inj, Int32.reduceToInt, nI_toInt] at c1RephasMonth c5RephasMonth c1Ledwrite m2MDisIn m5MDisIn m2MDisIn_2 m5MDisIn_2 m2MDisIn_3 m5MDisIn_3 m24; done)
                                | (exfalso; simp (disch := omega) only [Int32.lt_iff_toInt_lt, Int32.le_iff_toInt_le, ← Int32.toInt_inj, Int32.reduceToInt, nI_toInt] at c1RephasMonth c5RephasMonth c1Ledwrite m2MDisIn m5MDisIn m2MDisIn_2 m5MDisIn_2 m2MDisIn_3 m5MDisIn_3 m24; omega)
                            · refine jr_ic rfl ?_
                              refine jr_iret rfl rfl (Nat.zero_le _) (Nat.zero_le _) ?_
                              first
                                | exact ⟨rfl, hRel0⟩
                                | (exfalso; omega)
                                | (exfalso; simp (disch := omega) only [Int32.lt_iff_toInt_lt, Int32.le_iff_toInt_le, ← Int32.toInt_inj, Int32.reduceToInt, nI_toInt] at c1RephasMonth c5RephasMonth c1Ledwrite m2MDisIn m5MDisIn m2MDisIn_2 m5MDisIn_2 m2MDisIn_3 m5MDisIn_3 m24; done)
                                | (exfalso; simp (disch := omega) only [Int32.lt_iff_toInt_lt, Int32.le_iff_toInt_le, ← Int32.toInt_inj, Int32.reduceToInt, nI_toInt] at c1RephasMonth c5RephasMonth c1Ledwrite m2MDisIn m5MDisIn m2MDisIn_2 m5MDisIn_2 m2MDisIn_3 m5MDisIn_3 m24; omega)
              · refine jr_iload rfl rfl ?_
                refine jr_ic rfl ?_
                refine jr_icmp_gt rfl (fun c4Ledwrite => ?_) (fun c4Ledwrite => ?_)
                · refine jr_ic rfl ?_
                  refine jr_iret rfl rfl (Nat.zero_le _) (Nat.zero_le _) ?_
                  refine jr_iret rfl rfl (Nat.zero_le _) (Nat.zero_le _) ?_
                  show jx_W (jm_MD_ledger, d + 40, 0, 0, false, 1, _) _ 0 0 0 [some _, some _, some _, some _] [] _
                  refine jr_iload rfl rfl ?_
                  refine jr_ic rfl ?_
                  refine jr_ic rfl ?_
                  refine jr_cs3 (mc' := 0) (ms' := 0) rfl jm_MD_isIn_n jm_MD_isIn_f rfl rfl rfl rfl rfl (Nat.zero_le _) (Nat.zero_le _) ?_
                  show jx_W (jm_MD_isIn, _, _, _, _, _, _) _ 0 0 0 [some _, some _, some _] [] _
                  refine jr_iload rfl rfl ?_
                  refine jr_iload rfl rfl ?_
                  refine jr_icmp_lt rfl (fun m2MDisIn => ?_) (fun m2MDisIn => ?_)
                  · refine jr_ic rfl ?_
                    refine jr_zret rfl rfl rfl (Nat.zero_le _) (Nat.zero_le _) ?_
                    refine jr_if_eq rfl (fun _ => ?_) (fun z => absurd (by decide) z)
                    refine jr_ic rfl ?_
                    refine jr_iret rfl rfl (Nat.zero_le _) (Nat.zero_le _) ?_
                    first
                      | exact ⟨rfl, hRel0⟩
                      | (exfalso; omega)
                      | (exfalso; simp (disch := omega) only [Int32.lt_iff_toInt_lt, Int32.le_iff_toInt_le, ← Int32.toInt_inj, Int32.reduceToInt, nI_toInt] at c1RephasMonth c5RephasMonth c1Ledwrite c4Ledwrite m2MDisIn; done)
                      | (exfalso; simp (disch := omega) only [Int32.lt_iff_toInt_lt, Int32.le_iff_toInt_le, ← Int32.toInt_inj, Int32.reduceToInt, nI_toInt] at c1RephasMonth c5RephasMonth c1Ledwrite c4Ledwrite m2MDisIn; omega)
                  · refine jr_iload rfl rfl ?_
                    refine jr_iload rfl rfl ?_
                    refine jr_icmp_gt rfl (fun m5MDisIn => ?_) (fun m5MDisIn => ?_)
                    · refine jr_ic rfl ?_
                      refine jr_zret rfl rfl rfl (Nat.zero_le _) (Nat.zero_le _) ?_
                      refine jr_if_eq rfl (fun _ => ?_) (fun z => absurd (by decide) z)
                      refine jr_ic rfl ?_
                      refine jr_iret rfl rfl (Nat.zero_le _) (Nat.zero_le _) ?_
                      first
                        | exact ⟨rfl, hRel0⟩
                        | (exfalso; omega)
                        | (exfalso; simp (disch := omega) only [Int32.lt_iff_toInt_lt, Int32.le_iff_toInt_le, ← Int32.toInt_inj, Int32.reduceToInt, nI_toInt] at c1RephasMonth c5RephasMonth c1Ledwrite c4Ledwrite m2MDisIn m5MDisIn; done)
                        | (exfalso; simp (disch := omega) only [Int32.lt_iff_toInt_lt, Int32.le_iff_toInt_le, ← Int32.toInt_inj, Int32.reduceToInt, nI_toInt] at c1RephasMonth c5RephasMonth c1Ledwrite c4Ledwrite m2MDisIn m5MDisIn; omega)
                    · refine jr_ic rfl ?_
                      refine jr_goto rfl ?_
                      refine jr_zret rfl rfl rfl (Nat.zero_le _) (Nat.zero_le _) ?_
                      refine jr_if_eq rfl (fun z => absurd z (by decide)) (fun _ => ?_)
                      refine jr_iload rfl rfl ?_
                      refine jr_ic rfl ?_
                      refine jr_aload rfl rfl ?_
                      refine jr_getR rfl rfl rfl rfl (Or.inl rfl) ?_
                      refine jr_aload rfl rfl ?_
                      refine jr_getI rfl rfl ?_
                      refine jr_iald (len := 2) rfl rfl hw.1 (by omega) ?_
                      refine jr_ic rfl ?_
                      refine jr_isub rfl ?_
                      refine jr_cs3 (mc' := 0) (ms' := 0) rfl jm_MD_isIn_n jm_MD_isIn_f rfl rfl rfl rfl rfl (Nat.zero_le _) (Nat.zero_le _) ?_
                      show jx_W (jm_MD_isIn, _, _, _, _, _, _) _ 0 0 0 [some _, some _, some _] [] _
                      refine jr_iload rfl rfl ?_
                      refine jr_iload rfl rfl ?_
                      refine jr_icmp_lt rfl (fun m2MDisIn_2 => ?_) (fun m2MDisIn_2 => ?_)
                      · refine jr_ic rfl ?_
                        refine jr_zret rfl rfl rfl (Nat.zero_le _) (Nat.zero_le _) ?_
                        refine jr_if_eq rfl (fun _ => ?_) (fun z => absurd (by decide) z)
                        refine jr_ic rfl ?_
                        refine jr_iret rfl rfl (Nat.zero_le _) (Nat.zero_le _) ?_
                        first
                          | exact ⟨rfl, hRel0⟩
                          | (exfalso; omega)
                          | (exfalso; simp (disch := omega) only [Int32.lt_iff_toInt_lt, Int32.le_iff_toInt_le, ← Int32.toInt_inj, Int32.reduceToInt, nI_toInt] at c1RephasMonth c5RephasMonth c1Ledwrite c4Ledwrite m2MDisIn m5MDisIn m2MDisIn_2; done)
                          | (exfalso; simp (disch := omega) only [Int32.lt_iff_toInt_lt, Int32.le_iff_toInt_le, ← Int32.toInt_inj, Int32.reduceToInt, nI_toInt] at c1RephasMonth c5RephasMonth c1Ledwrite c4Ledwrite m2MDisIn m5MDisIn m2MDisIn_2; omega)
                      · refine jr_iload rfl rfl ?_
                        refine jr_iload rfl rfl ?_
                        refine jr_icmp_gt rfl (fun m5MDisIn_2 => ?_) (fun m5MDisIn_2 => ?_)
                        · refine jr_ic rfl ?_
                          refine jr_zret rfl rfl rfl (Nat.zero_le _) (Nat.zero_le _) ?_
                          refine jr_if_eq rfl (fun _ => ?_) (fun z => absurd (by decide) z)
                          refine jr_ic rfl ?_
                          refine jr_iret rfl rfl (Nat.zero_le _) (Nat.zero_le _) ?_
                          first
                            | exact ⟨rfl, hRel0⟩
                            | (exfalso; omega)
                            | (exfalso; simp (disch := omega) only [Int32.lt_iff_toInt_lt, Int32.le_iff_toInt_le, ← Int32.toInt_inj, Int32.reduceToInt, nI_toInt] at c1RephasMonth c5RephasMonth c1Ledwrite c4Ledwrite m2MDisIn m5MDisIn m2MDisIn_2 m5MDisIn_2; done)
                            | (exfalso; simp (disch := omega) only [Int32.lt_iff_toInt_lt, Int32.le_iff_toInt_le, ← Int32.toInt_inj, Int32.reduceToInt, nI_toInt] at c1RephasMonth c5RephasMonth c1Ledwrite c4Ledwrite m2MDisIn m5MDisIn m2MDisIn_2 m5MDisIn_2; omega)
                        · refine jr_ic rfl ?_
                          refine jr_goto rfl ?_
                          refine jr_zret rfl rfl rfl (Nat.zero_le _) (Nat.zero_le _) ?_
                          refine jr_if_eq rfl (fun z => absurd z (by decide)) (fun _ => ?_)
                          refine jr_iload rfl rfl ?_
                          refine jr_ic rfl ?_
                          refine jr_ic rfl ?_
                          refine jr_cs3 (mc' := 0) (ms' := 0) rfl jm_MD_isIn_n jm_MD_isIn_f rfl rfl rfl rfl rfl (Nat.zero_le _) (Nat.zero_le _) ?_
                          show jx_W (jm_MD_isIn, _, _, _, _, _, _) _ 0 0 0 [some _, some _, some _] [] _
                          refine jr_iload rfl rfl ?_
                          refine jr_iload rfl rfl ?_
                          refine jr_icmp_lt rfl (fun m2MDisIn_3 => ?_) (fun m2MDisIn_3 => ?_)
                          · refine jr_ic rfl ?_
                            refine jr_zret rfl rfl rfl (Nat.zero_le _) (Nat.zero_le _) ?_
                            refine jr_if_eq rfl (fun _ => ?_) (fun z => absurd (by decide) z)
                            refine jr_ic rfl ?_
                            refine jr_iret rfl rfl (Nat.zero_le _) (Nat.zero_le _) ?_
                            first
                              | exact ⟨rfl, hRel0⟩
                              | (exfalso; omega)
                              | (exfalso; simp (disch := omega) only [Int32.lt_iff_toInt_lt, Int32.le_iff_toInt_le, ← Int32.toInt_inj, Int32.reduceToInt, nI_toInt] at c1RephasMonth c5RephasMonth c1Ledwrite c4Ledwrite m2MDisIn m5MDisIn m2MDisIn_2 m5MDisIn_2 m2MDisIn_3; done)
                              | (exfalso; simp (disch := omega) only [Int32.lt_iff_toInt_lt, Int32.le_iff_toInt_le, ← Int32.toInt_inj, Int32.reduceToInt, nI_toInt] at c1RephasMonth c5RephasMonth c1Ledwrite c4Ledwrite m2MDisIn m5MDisIn m2MDisIn_2 m5MDisIn_2 m2MDisIn_3; omega)
                          · refine jr_iload rfl rfl ?_
                            refine jr_iload rfl rfl ?_
                            refine jr_icmp_gt rfl (fun m5MDisIn_3 => ?_) (fun m5MDisIn_3 => ?_)
                            · refine jr_ic rfl ?_
                              refine jr_zret rfl rfl rfl (Nat.zero_le _) (Nat.zero_le _) ?_
                              refine jr_if_eq rfl (fun _ => ?_) (fun z => absurd (by decide) z)
                              refine jr_ic rfl ?_
                              refine jr_iret rfl rfl (Nat.zero_le _) (Nat.zero_le _) ?_
                              first
                                | exact ⟨rfl, hRel0⟩
                                | (exfalso; omega)
                                | (exfalso; simp (disch := omega) only [Int32.lt_iff_toInt_lt, Int32.le_iff_toInt_le, ← Int32.toInt_inj, Int32.reduceToInt, nI_toInt] at c1RephasMonth c5RephasMonth c1Ledwrite c4Ledwrite m2MDisIn m5MDisIn m2MDisIn_2 m5MDisIn_2 m2MDisIn_3 m5MDisIn_3; done)
                                | (exfalso; simp (disch := omega) only [Int32.lt_iff_toInt_lt, Int32.le_iff_toInt_le, ← Int32.toInt_inj, Int32.reduceToInt, nI_toInt] at c1RephasMonth c5RephasMonth c1Ledwrite c4Ledwrite m2MDisIn m5MDisIn m2MDisIn_2 m5MDisIn_2 m2MDisIn_3 m5MDisIn_3; omega)
                            · refine jr_ic rfl ?_
                              refine jr_goto rfl ?_
                              refine jr_zret rfl rfl rfl (Nat.zero_le _) (Nat.zero_le _) ?_
                              refine jr_if_eq rfl (fun z => absurd z (by decide)) (fun _ => ?_)
                              refine jr_aload rfl rfl ?_
                              refine jr_getI rfl rfl ?_
                              refine jr_ic rfl ?_
                              refine jr_icmp_ne rfl (fun m24 => ?_) (fun m24 => ?_)
                              · first
                                  | (exfalso; omega)
                                  | (exfalso; simp (disch := omega) only [Int32.lt_iff_toInt_lt, Int32.le_iff_toInt_le, ← Int32.toInt_inj, Int32.reduceToInt, nI_toInt] at c1RephasMonth c5RephasMonth c1Ledwrite c4Ledwrite m2MDisIn m5MDisIn m2MDisIn_2 m5MDisIn_2 m2MDisIn_3 m5MDisIn_3 m24; done)
                                  | (exfalso; simp (disch := omega) only [Int32.lt_iff_toInt_lt, Int32.le_iff_toInt_le, ← Int32.toInt_inj, Int32.reduceToInt, nI_toInt] at c1RephasMonth c5RephasMonth c1Ledwrite c4Ledwrite m2MDisIn m5MDisIn m2MDisIn_2 m5MDisIn_2 m2MDisIn_3 m5MDisIn_3 m24; omega)
                              · refine jr_ic rfl ?_
                                refine jr_iret rfl rfl (Nat.zero_le _) (Nat.zero_le _) ?_
                                first
                                  | exact ⟨rfl, hRel0⟩
                                  | (exfalso; omega)
                                  | (exfalso; simp (disch := omega) only [Int32.lt_iff_toInt_lt, Int32.le_iff_toInt_le, ← Int32.toInt_inj, Int32.reduceToInt, nI_toInt] at c1RephasMonth c5RephasMonth c1Ledwrite c4Ledwrite m2MDisIn m5MDisIn m2MDisIn_2 m5MDisIn_2 m2MDisIn_3 m5MDisIn_3 m24; done)
                                  | (exfalso; simp (disch := omega) only [Int32.lt_iff_toInt_lt, Int32.le_iff_toInt_le, ← Int32.toInt_inj, Int32.reduceToInt, nI_toInt] at c1RephasMonth c5RephasMonth c1Ledwrite c4Ledwrite m2MDisIn m5MDisIn m2MDisIn_2 m5MDisIn_2 m2MDisIn_3 m5MDisIn_3 m24; omega)
                · refine jr_iload rfl rfl ?_
                  refine jr_ic rfl ?_
                  refine jr_icmp_lt rfl (fun c7Ledwrite => ?_) (fun c7Ledwrite => ?_)
                  · refine jr_ic rfl ?_
                    refine jr_iret rfl rfl (Nat.zero_le _) (Nat.zero_le _) ?_
                    refine jr_iret rfl rfl (Nat.zero_le _) (Nat.zero_le _) ?_
                    show jx_W (jm_MD_ledger, d + 40, 0, 0, false, 1, _) _ 0 0 0 [some _, some _, some _, some _] [] _
                    refine jr_iload rfl rfl ?_
                    refine jr_ic rfl ?_
                    refine jr_ic rfl ?_
                    refine jr_cs3 (mc' := 0) (ms' := 0) rfl jm_MD_isIn_n jm_MD_isIn_f rfl rfl rfl rfl rfl (Nat.zero_le _) (Nat.zero_le _) ?_
                    show jx_W (jm_MD_isIn, _, _, _, _, _, _) _ 0 0 0 [some _, some _, some _] [] _
                    refine jr_iload rfl rfl ?_
                    refine jr_iload rfl rfl ?_
                    refine jr_icmp_lt rfl (fun m2MDisIn => ?_) (fun m2MDisIn => ?_)
                    · refine jr_ic rfl ?_
                      refine jr_zret rfl rfl rfl (Nat.zero_le _) (Nat.zero_le _) ?_
                      refine jr_if_eq rfl (fun _ => ?_) (fun z => absurd (by decide) z)
                      refine jr_ic rfl ?_
                      refine jr_iret rfl rfl (Nat.zero_le _) (Nat.zero_le _) ?_
                      first
                        | exact ⟨rfl, hRel0⟩
                        | (exfalso; omega)
                        | (exfalso; simp (disch := omega) only [Int32.lt_iff_toInt_lt, Int32.le_iff_toInt_le, ← Int32.toInt_inj, Int32.reduceToInt, nI_toInt] at c1RephasMonth c5RephasMonth c1Ledwrite c4Ledwrite c7Ledwrite m2MDisIn; done)
                        | (exfalso; simp (disch := omega) only [Int32.lt_iff_toInt_lt, Int32.le_iff_toInt_le, ← Int32.toInt_inj, Int32.reduceToInt, nI_toInt] at c1RephasMonth c5RephasMonth c1Ledwrite c4Ledwrite c7Ledwrite m2MDisIn; omega)
                    · refine jr_iload rfl rfl ?_
                      refine jr_iload rfl rfl ?_
                      refine jr_icmp_gt rfl (fun m5MDisIn => ?_) (fun m5MDisIn => ?_)
                      · refine jr_ic rfl ?_
                        refine jr_zret rfl rfl rfl (Nat.zero_le _) (Nat.zero_le _) ?_
                        refine jr_if_eq rfl (fun _ => ?_) (fun z => absurd (by decide) z)
                        refine jr_ic rfl ?_
                        refine jr_iret rfl rfl (Nat.zero_le _) (Nat.zero_le _) ?_
                        first
                          | exact ⟨rfl, hRel0⟩
                          | (exfalso; omega)
                          | (exfalso; simp (disch := omega) only [Int32.lt_iff_toInt_lt, Int32.le_iff_toInt_le, ← Int32.toInt_inj, Int32.reduceToInt, nI_toInt] at c1RephasMonth c5RephasMonth c1Ledwrite c4Ledwrite c7Ledwrite m2MDisIn m5MDisIn; done)
                          | (exfalso; simp (disch := omega) only [Int32.lt_iff_toInt_lt, Int32.le_iff_toInt_le, ← Int32.toInt_inj, Int32.reduceToInt, nI_toInt] at c1RephasMonth c5RephasMonth c1Ledwrite c4Ledwrite c7Ledwrite m2MDisIn m5MDisIn; omega)
                      · refine jr_ic rfl ?_
                        refine jr_goto rfl ?_
                        refine jr_zret rfl rfl rfl (Nat.zero_le _) (Nat.zero_le _) ?_
                        refine jr_if_eq rfl (fun z => absurd z (by decide)) (fun _ => ?_)
                        refine jr_iload rfl rfl ?_
                        refine jr_ic rfl ?_
                        refine jr_aload rfl rfl ?_
                        refine jr_getR rfl rfl rfl rfl (Or.inl rfl) ?_
                        refine jr_aload rfl rfl ?_
                        refine jr_getI rfl rfl ?_
                        refine jr_iald (len := 2) rfl rfl hw.1 (by omega) ?_
                        refine jr_ic rfl ?_
                        refine jr_isub rfl ?_
                        refine jr_cs3 (mc' := 0) (ms' := 0) rfl jm_MD_isIn_n jm_MD_isIn_f rfl rfl rfl rfl rfl (Nat.zero_le _) (Nat.zero_le _) ?_
                        show jx_W (jm_MD_isIn, _, _, _, _, _, _) _ 0 0 0 [some _, some _, some _] [] _
                        refine jr_iload rfl rfl ?_
                        refine jr_iload rfl rfl ?_
                        refine jr_icmp_lt rfl (fun m2MDisIn_2 => ?_) (fun m2MDisIn_2 => ?_)
                        · refine jr_ic rfl ?_
                          refine jr_zret rfl rfl rfl (Nat.zero_le _) (Nat.zero_le _) ?_
                          refine jr_if_eq rfl (fun _ => ?_) (fun z => absurd (by decide) z)
                          refine jr_ic rfl ?_
                          refine jr_iret rfl rfl (Nat.zero_le _) (Nat.zero_le _) ?_
                          first
                            | exact ⟨rfl, hRel0⟩
                            | (exfalso; omega)
                            | (exfalso; simp (disch := omega) only [Int32.lt_iff_toInt_lt, Int32.le_iff_toInt_le, ← Int32.toInt_inj, Int32.reduceToInt, nI_toInt] at c1RephasMonth c5RephasMonth c1Ledwrite c4Ledwrite c7Ledwrite m2MDisIn m5MDisIn m2MDisIn_2; done)
                            | (exfalso; simp (disch := omega) only [Int32.lt_iff_toInt_lt, Int32.le_iff_toInt_le, ← Int32.toInt_inj, Int32.reduceToInt, nI_toInt] at c1RephasMonth c5RephasMonth c1Ledwrite c4Ledwrite c7Ledwrite m2MDisIn m5MDisIn m2MDisIn_2; omega)
                        · refine jr_iload rfl rfl ?_
                          refine jr_iload rfl rfl ?_
                          refine jr_icmp_gt rfl (fun m5MDisIn_2 => ?_) (fun m5MDisIn_2 => ?_)
                          · refine jr_ic rfl ?_
                            refine jr_zret rfl rfl rfl (Nat.zero_le _) (Nat.zero_le _) ?_
                            refine jr_if_eq rfl (fun _ => ?_) (fun z => absurd (by decide) z)
                            refine jr_ic rfl ?_
                            refine jr_iret rfl rfl (Nat.zero_le _) (Nat.zero_le _) ?_
                            first
                              | exact ⟨rfl, hRel0⟩
                              | (exfalso; omega)
                              | (exfalso; simp (disch := omega) only [Int32.lt_iff_toInt_lt, Int32.le_iff_toInt_le, ← Int32.toInt_inj, Int32.reduceToInt, nI_toInt] at c1RephasMonth c5RephasMonth c1Ledwrite c4Ledwrite c7Ledwrite m2MDisIn m5MDisIn m2MDisIn_2 m5MDisIn_2; done)
                              | (exfalso; simp (disch := omega) only [Int32.lt_iff_toInt_lt, Int32.le_iff_toInt_le, ← Int32.toInt_inj, Int32.reduceToInt, nI_toInt] at c1RephasMonth c5RephasMonth c1Ledwrite c4Ledwrite c7Ledwrite m2MDisIn m5MDisIn m2MDisIn_2 m5MDisIn_2; omega)
                          · refine jr_ic rfl ?_
                            refine jr_goto rfl ?_
                            refine jr_zret rfl rfl rfl (Nat.zero_le _) (Nat.zero_le _) ?_
                            refine jr_if_eq rfl (fun z => absurd z (by decide)) (fun _ => ?_)
                            refine jr_iload rfl rfl ?_
                            refine jr_ic rfl ?_
                            refine jr_ic rfl ?_
                            refine jr_cs3 (mc' := 0) (ms' := 0) rfl jm_MD_isIn_n jm_MD_isIn_f rfl rfl rfl rfl rfl (Nat.zero_le _) (Nat.zero_le _) ?_
                            show jx_W (jm_MD_isIn, _, _, _, _, _, _) _ 0 0 0 [some _, some _, some _] [] _
                            refine jr_iload rfl rfl ?_
                            refine jr_iload rfl rfl ?_
                            refine jr_icmp_lt rfl (fun m2MDisIn_3 => ?_) (fun m2MDisIn_3 => ?_)
                            · refine jr_ic rfl ?_
                              refine jr_zret rfl rfl rfl (Nat.zero_le _) (Nat.zero_le _) ?_
                              refine jr_if_eq rfl (fun _ => ?_) (fun z => absurd (by decide) z)
                              refine jr_ic rfl ?_
                              refine jr_iret rfl rfl (Nat.zero_le _) (Nat.zero_le _) ?_
                              first
                                | exact ⟨rfl, hRel0⟩
                                | (exfalso; omega)
                                | (exfalso; simp (disch := omega) only [Int32.lt_iff_toInt_lt, Int32.le_iff_toInt_le, ← Int32.toInt_inj, Int32.reduceToInt, nI_toInt] at c1RephasMonth c5RephasMonth c1Ledwrite c4Ledwrite c7Ledwrite m2MDisIn m5MDisIn m2MDisIn_2 m5MDisIn_2 m2MDisIn_3; done)
                                | (exfalso; simp (disch := omega) only [Int32.lt_iff_toInt_lt, Int32.le_iff_toInt_le, ← Int32.toInt_inj, Int32.reduceToInt, nI_toInt] at c1RephasMonth c5RephasMonth c1Ledwrite c4Ledwrite c7Ledwrite m2MDisIn m5MDisIn m2MDisIn_2 m5MDisIn_2 m2MDisIn_3; omega)
                            · refine jr_iload rfl rfl ?_
                              refine jr_iload rfl rfl ?_
                              refine jr_icmp_gt rfl (fun m5MDisIn_3 => ?_) (fun m5MDisIn_3 => ?_)
                              · refine jr_ic rfl ?_
                                refine jr_zret rfl rfl rfl (Nat.zero_le _) (Nat.zero_le _) ?_
                                refine jr_if_eq rfl (fun _ => ?_) (fun z => absurd (by decide) z)
                                refine jr_ic rfl ?_
                                refine jr_iret rfl rfl (Nat.zero_le _) (Nat.zero_le _) ?_
                                first
                                  | exact ⟨rfl, hRel0⟩
                                  | (exfalso; omega)
                                  | (exfalso; simp (disch := omega) only [Int32.lt_iff_toInt_lt, Int32.le_iff_toInt_le, ← Int32.toInt_inj, Int32.reduceToInt, nI_toInt] at c1RephasMonth c5RephasMonth c1Ledwrite c4Ledwrite c7Ledwrite m2MDisIn m5MDisIn m2MDisIn_2 m5MDisIn_2 m2MDisIn_3 m5MDisIn_3; done)
                                  | (exfalso; simp (disch := omega) only [Int32.lt_iff_toInt_lt, Int32.le_iff_toInt_le, ← Int32.toInt_inj, Int32.reduceToInt, nI_toInt] at c1RephasMonth c5RephasMonth c1Ledwrite c4Ledwrite c7Ledwrite m2MDisIn m5MDisIn m2MDisIn_2 m5MDisIn_2 m2MDisIn_3 m5MDisIn_3; omega)
                              · refine jr_ic rfl ?_
                                refine jr_goto rfl ?_
                                refine jr_zret rfl rfl rfl (Nat.zero_le _) (Nat.zero_le _) ?_
                                refine jr_if_eq rfl (fun z => absurd z (by decide)) (fun _ => ?_)
                                refine jr_aload rfl rfl ?_
                                refine jr_getI rfl rfl ?_
                                refine jr_ic rfl ?_
                                refine jr_icmp_ne rfl (fun m24 => ?_) (fun m24 => ?_)
                                · first
                                    | (exfalso; omega)
                                    | (exfalso; simp (disch := omega) only [Int32.lt_iff_toInt_lt, Int32.le_iff_toInt_le, ← Int32.toInt_inj, Int32.reduceToInt, nI_toInt] at c1RephasMonth c5RephasMonth c1Ledwrite c4Ledwrite c7Ledwrite m2MDisIn m5MDisIn m2MDisIn_2 m5MDisIn_2 m2MDisIn_3 m5MDisIn_3 m24; done)
                                    | (exfalso; simp (disch := omega) only [Int32.lt_iff_toInt_lt, Int32.le_iff_toInt_le, ← Int32.toInt_inj, Int32.reduceToInt, nI_toInt] at c1RephasMonth c5RephasMonth c1Ledwrite c4Ledwrite c7Ledwrite m2MDisIn m5MDisIn m2MDisIn_2 m5MDisIn_2 m2MDisIn_3 m5MDisIn_3 m24; omega)
                                · refine jr_ic rfl ?_
                                  refine jr_iret rfl rfl (Nat.zero_le _) (Nat.zero_le _) ?_
                                  first
                                    | exact ⟨rfl, hRel0⟩
                                    | (exfalso; omega)
                                    | (exfalso; simp (disch := omega) only [Int32.lt_iff_toInt_lt, Int32.le_iff_toInt_le, ← Int32.toInt_inj, Int32.reduceToInt, nI_toInt] at c1RephasMonth c5RephasMonth c1Ledwrite c4Ledwrite c7Ledwrite m2MDisIn m5MDisIn m2MDisIn_2 m5MDisIn_2 m2MDisIn_3 m5MDisIn_3 m24; done)
                                    | (exfalso; simp (disch := omega) only [Int32.lt_iff_toInt_lt, Int32.le_iff_toInt_le, ← Int32.toInt_inj, Int32.reduceToInt, nI_toInt] at c1RephasMonth c5RephasMonth c1Ledwrite c4Ledwrite c7Ledwrite m2MDisIn m5MDisIn m2MDisIn_2 m5MDisIn_2 m2MDisIn_3 m5MDisIn_3 m24; omega)
                  · refine jr_iload rfl rfl ?_
                    refine jr_ic rfl ?_
                    refine jr_icmp_gt rfl (fun c10Ledwrite => ?_) (fun c10Ledwrite => ?_)
                    · refine jr_ic rfl ?_
                      refine jr_iret rfl rfl (Nat.zero_le _) (Nat.zero_le _) ?_
                      refine jr_iret rfl rfl (Nat.zero_le _) (Nat.zero_le _) ?_
                      show jx_W (jm_MD_ledger, d + 40, 0, 0, false, 1, _) _ 0 0 0 [some _, some _, some _, some _] [] _
                      refine jr_iload rfl rfl ?_
                      refine jr_ic rfl ?_
                      refine jr_ic rfl ?_
                      refine jr_cs3 (mc' := 0) (ms' := 0) rfl jm_MD_isIn_n jm_MD_isIn_f rfl rfl rfl rfl rfl (Nat.zero_le _) (Nat.zero_le _) ?_
                      show jx_W (jm_MD_isIn, _, _, _, _, _, _) _ 0 0 0 [some _, some _, some _] [] _
                      refine jr_iload rfl rfl ?_
                      refine jr_iload rfl rfl ?_
                      refine jr_icmp_lt rfl (fun m2MDisIn => ?_) (fun m2MDisIn => ?_)
                      · refine jr_ic rfl ?_
                        refine jr_zret rfl rfl rfl (Nat.zero_le _) (Nat.zero_le _) ?_
                        refine jr_if_eq rfl (fun _ => ?_) (fun z => absurd (by decide) z)
                        refine jr_ic rfl ?_
                        refine jr_iret rfl rfl (Nat.zero_le _) (Nat.zero_le _) ?_
                        first
                          | exact ⟨rfl, hRel0⟩
                          | (exfalso; omega)
                          | (exfalso; simp (disch := omega) only [Int32.lt_iff_toInt_lt, Int32.le_iff_toInt_le, ← Int32.toInt_inj, Int32.reduceToInt, nI_toInt] at c1RephasMonth c5RephasMonth c1Ledwrite c4Ledwrite c7Ledwrite c10Ledwrite m2MDisIn; done)
                          | (exfalso; simp (disch := omega) only [Int32.lt_iff_toInt_lt, Int32.le_iff_toInt_le, ← Int32.toInt_inj, Int32.reduceToInt, nI_toInt] at c1RephasMonth c5RephasMonth c1Ledwrite c4Ledwrite c7Ledwrite c10Ledwrite m2MDisIn; omega)
                      · refine jr_iload rfl rfl ?_
                        refine jr_iload rfl rfl ?_
                        refine jr_icmp_gt rfl (fun m5MDisIn => ?_) (fun m5MDisIn => ?_)
                        · refine jr_ic rfl ?_
                          refine jr_zret rfl rfl rfl (Nat.zero_le _) (Nat.zero_le _) ?_
                          refine jr_if_eq rfl (fun _ => ?_) (fun z => absurd (by decide) z)
                          refine jr_ic rfl ?_
                          refine jr_iret rfl rfl (Nat.zero_le _) (Nat.zero_le _) ?_
                          first
                            | exact ⟨rfl, hRel0⟩
                            | (exfalso; omega)
                            | (exfalso; simp (disch := omega) only [Int32.lt_iff_toInt_lt, Int32.le_iff_toInt_le, ← Int32.toInt_inj, Int32.reduceToInt, nI_toInt] at c1RephasMonth c5RephasMonth c1Ledwrite c4Ledwrite c7Ledwrite c10Ledwrite m2MDisIn m5MDisIn; done)
                            | (exfalso; simp (disch := omega) only [Int32.lt_iff_toInt_lt, Int32.le_iff_toInt_le, ← Int32.toInt_inj, Int32.reduceToInt, nI_toInt] at c1RephasMonth c5RephasMonth c1Ledwrite c4Ledwrite c7Ledwrite c10Ledwrite m2MDisIn m5MDisIn; omega)
                        · refine jr_ic rfl ?_
                          refine jr_goto rfl ?_
                          refine jr_zret rfl rfl rfl (Nat.zero_le _) (Nat.zero_le _) ?_
                          refine jr_if_eq rfl (fun z => absurd z (by decide)) (fun _ => ?_)
                          refine jr_iload rfl rfl ?_
                          refine jr_ic rfl ?_
                          refine jr_aload rfl rfl ?_
                          refine jr_getR rfl rfl rfl rfl (Or.inl rfl) ?_
                          refine jr_aload rfl rfl ?_
                          refine jr_getI rfl rfl ?_
                          refine jr_iald (len := 2) rfl rfl hw.1 (by omega) ?_
                          refine jr_ic rfl ?_
                          refine jr_isub rfl ?_
                          refine jr_cs3 (mc' := 0) (ms' := 0) rfl jm_MD_isIn_n jm_MD_isIn_f rfl rfl rfl rfl rfl (Nat.zero_le _) (Nat.zero_le _) ?_
                          show jx_W (jm_MD_isIn, _, _, _, _, _, _) _ 0 0 0 [some _, some _, some _] [] _
                          refine jr_iload rfl rfl ?_
                          refine jr_iload rfl rfl ?_
                          refine jr_icmp_lt rfl (fun m2MDisIn_2 => ?_) (fun m2MDisIn_2 => ?_)
                          · refine jr_ic rfl ?_
                            refine jr_zret rfl rfl rfl (Nat.zero_le _) (Nat.zero_le _) ?_
                            refine jr_if_eq rfl (fun _ => ?_) (fun z => absurd (by decide) z)
                            refine jr_ic rfl ?_
                            refine jr_iret rfl rfl (Nat.zero_le _) (Nat.zero_le _) ?_
                            first
                              | exact ⟨rfl, hRel0⟩
                              | (exfalso; omega)
                              | (exfalso; simp (disch := omega) only [Int32.lt_iff_toInt_lt, Int32.le_iff_toInt_le, ← Int32.toInt_inj, Int32.reduceToInt, nI_toInt] at c1RephasMonth c5RephasMonth c1Ledwrite c4Ledwrite c7Ledwrite c10Ledwrite m2MDisIn m5MDisIn m2MDisIn_2; done)
                              | (exfalso; simp (disch := omega) only [Int32.lt_iff_toInt_lt, Int32.le_iff_toInt_le, ← Int32.toInt_inj, Int32.reduceToInt, nI_toInt] at c1RephasMonth c5RephasMonth c1Ledwrite c4Ledwrite c7Ledwrite c10Ledwrite m2MDisIn m5MDisIn m2MDisIn_2; omega)
                          · refine jr_iload rfl rfl ?_
                            refine jr_iload rfl rfl ?_
                            refine jr_icmp_gt rfl (fun m5MDisIn_2 => ?_) (fun m5MDisIn_2 => ?_)
                            · refine jr_ic rfl ?_
                              refine jr_zret rfl rfl rfl (Nat.zero_le _) (Nat.zero_le _) ?_
                              refine jr_if_eq rfl (fun _ => ?_) (fun z => absurd (by decide) z)
                              refine jr_ic rfl ?_
                              refine jr_iret rfl rfl (Nat.zero_le _) (Nat.zero_le _) ?_
                              first
                                | exact ⟨rfl, hRel0⟩
                                | (exfalso; omega)
                                | (exfalso; simp (disch := omega) only [Int32.lt_iff_toInt_lt, Int32.le_iff_toInt_le, ← Int32.toInt_inj, Int32.reduceToInt, nI_toInt] at c1RephasMonth c5RephasMonth c1Ledwrite c4Ledwrite c7Ledwrite c10Ledwrite m2MDisIn m5MDisIn m2MDisIn_2 m5MDisIn_2; done)
                                | (exfalso; simp (disch := omega) only [Int32.lt_iff_toInt_lt, Int32.le_iff_toInt_le, ← Int32.toInt_inj, Int32.reduceToInt, nI_toInt] at c1RephasMonth c5RephasMonth c1Ledwrite c4Ledwrite c7Ledwrite c10Ledwrite m2MDisIn m5MDisIn m2MDisIn_2 m5MDisIn_2; omega)
                            · refine jr_ic rfl ?_
                              refine jr_goto rfl ?_
                              refine jr_zret rfl rfl rfl (Nat.zero_le _) (Nat.zero_le _) ?_
                              refine jr_if_eq rfl (fun z => absurd z (by decide)) (fun _ => ?_)
                              refine jr_iload rfl rfl ?_
                              refine jr_ic rfl ?_
                              refine jr_ic rfl ?_
                              refine jr_cs3 (mc' := 0) (ms' := 0) rfl jm_MD_isIn_n jm_MD_isIn_f rfl rfl rfl rfl rfl (Nat.zero_le _) (Nat.zero_le _) ?_
                              show jx_W (jm_MD_isIn, _, _, _, _, _, _) _ 0 0 0 [some _, some _, some _] [] _
                              refine jr_iload rfl rfl ?_
                              refine jr_iload rfl rfl ?_
                              refine jr_icmp_lt rfl (fun m2MDisIn_3 => ?_) (fun m2MDisIn_3 => ?_)
                              · refine jr_ic rfl ?_
                                refine jr_zret rfl rfl rfl (Nat.zero_le _) (Nat.zero_le _) ?_
                                refine jr_if_eq rfl (fun _ => ?_) (fun z => absurd (by decide) z)
                                refine jr_ic rfl ?_
                                refine jr_iret rfl rfl (Nat.zero_le _) (Nat.zero_le _) ?_
                                first
                                  | exact ⟨rfl, hRel0⟩
                                  | (exfalso; omega)
                                  | (exfalso; simp (disch := omega) only [Int32.lt_iff_toInt_lt, Int32.le_iff_toInt_le, ← Int32.toInt_inj, Int32.reduceToInt, nI_toInt] at c1RephasMonth c5RephasMonth c1Ledwrite c4Ledwrite c7Ledwrite c10Ledwrite m2MDisIn m5MDisIn m2MDisIn_2 m5MDisIn_2 m2MDisIn_3; done)
                                  | (exfalso; simp (disch := omega) only [Int32.lt_iff_toInt_lt, Int32.le_iff_toInt_le, ← Int32.toInt_inj, Int32.reduceToInt, nI_toInt] at c1RephasMonth c5RephasMonth c1Ledwrite c4Ledwrite c7Ledwrite c10Ledwrite m2MDisIn m5MDisIn m2MDisIn_2 m5MDisIn_2 m2MDisIn_3; omega)
                              · refine jr_iload rfl rfl ?_
                                refine jr_iload rfl rfl ?_
                                refine jr_icmp_gt rfl (fun m5MDisIn_3 => ?_) (fun m5MDisIn_3 => ?_)
                                · refine jr_ic rfl ?_
                                  refine jr_zret rfl rfl rfl (Nat.zero_le _) (Nat.zero_le _) ?_
                                  refine jr_if_eq rfl (fun _ => ?_) (fun z => absurd (by decide) z)
                                  refine jr_ic rfl ?_
                                  refine jr_iret rfl rfl (Nat.zero_le _) (Nat.zero_le _) ?_
                                  first
                                    | exact ⟨rfl, hRel0⟩
                                    | (exfalso; omega)
                                    | (exfalso; simp (disch := omega) only [Int32.lt_iff_toInt_lt, Int32.le_iff_toInt_le, ← Int32.toInt_inj, Int32.reduceToInt, nI_toInt] at c1RephasMonth c5RephasMonth c1Ledwrite c4Ledwrite c7Ledwrite c10Ledwrite m2MDisIn m5MDisIn m2MDisIn_2 m5MDisIn_2 m2MDisIn_3 m5MDisIn_3; done)
                                    | (exfalso; simp (disch := omega) only [Int32.lt_iff_toInt_lt, Int32.le_iff_toInt_le, ← Int32.toInt_inj, Int32.reduceToInt, nI_toInt] at c1RephasMonth c5RephasMonth c1Ledwrite c4Ledwrite c7Ledwrite c10Ledwrite m2MDisIn m5MDisIn m2MDisIn_2 m5MDisIn_2 m2MDisIn_3 m5MDisIn_3; omega)
                                · refine jr_ic rfl ?_
                                  refine jr_goto rfl ?_
                                  refine jr_zret rfl rfl rfl (Nat.zero_le _) (Nat.zero_le _) ?_
                                  refine jr_if_eq rfl (fun z => absurd z (by decide)) (fun _ => ?_)
                                  refine jr_aload rfl rfl ?_
                                  refine jr_getI rfl rfl ?_
                                  refine jr_ic rfl ?_
                                  refine jr_icmp_ne rfl (fun m24 => ?_) (fun m24 => ?_)
                                  · first
                                      | (exfalso; omega)
                                      | (exfalso; simp (disch := omega) only [Int32.lt_iff_toInt_lt, Int32.le_iff_toInt_le, ← Int32.toInt_inj, Int32.reduceToInt, nI_toInt] at c1RephasMonth c5RephasMonth c1Ledwrite c4Ledwrite c7Ledwrite c10Ledwrite m2MDisIn m5MDisIn m2MDisIn_2 m5MDisIn_2 m2MDisIn_3 m5MDisIn_3 m24; done)
                                      | (exfalso; simp (disch := omega) only [Int32.lt_iff_toInt_lt, Int32.le_iff_toInt_le, ← Int32.toInt_inj, Int32.reduceToInt, nI_toInt] at c1RephasMonth c5RephasMonth c1Ledwrite c4Ledwrite c7Ledwrite c10Ledwrite m2MDisIn m5MDisIn m2MDisIn_2 m5MDisIn_2 m2MDisIn_3 m5MDisIn_3 m24; omega)
                                  · refine jr_ic rfl ?_
                                    refine jr_iret rfl rfl (Nat.zero_le _) (Nat.zero_le _) ?_
                                    first
                                      | exact ⟨rfl, hRel0⟩
                                      | (exfalso; omega)
                                      | (exfalso; simp (disch := omega) only [Int32.lt_iff_toInt_lt, Int32.le_iff_toInt_le, ← Int32.toInt_inj, Int32.reduceToInt, nI_toInt] at c1RephasMonth c5RephasMonth c1Ledwrite c4Ledwrite c7Ledwrite c10Ledwrite m2MDisIn m5MDisIn m2MDisIn_2 m5MDisIn_2 m2MDisIn_3 m5MDisIn_3 m24; done)
                                      | (exfalso; simp (disch := omega) only [Int32.lt_iff_toInt_lt, Int32.le_iff_toInt_le, ← Int32.toInt_inj, Int32.reduceToInt, nI_toInt] at c1RephasMonth c5RephasMonth c1Ledwrite c4Ledwrite c7Ledwrite c10Ledwrite m2MDisIn m5MDisIn m2MDisIn_2 m5MDisIn_2 m2MDisIn_3 m5MDisIn_3 m24; omega)
                    · refine jr_aload rfl rfl ?_
                      refine jr_getI rfl rfl ?_
                      refine jr_ic rfl ?_
                      refine jr_icmp_lt rfl (fun c14Ledwrite => ?_) (fun c14Ledwrite => ?_)
                      · first
                          | (exfalso; omega)
                          | (exfalso; simp (disch := omega) only [Int32.lt_iff_toInt_lt, Int32.le_iff_toInt_le, ← Int32.toInt_inj, Int32.reduceToInt, nI_toInt] at c1RephasMonth c5RephasMonth c1Ledwrite c4Ledwrite c7Ledwrite c10Ledwrite c14Ledwrite; done)
                          | (exfalso; simp (disch := omega) only [Int32.lt_iff_toInt_lt, Int32.le_iff_toInt_le, ← Int32.toInt_inj, Int32.reduceToInt, nI_toInt] at c1RephasMonth c5RephasMonth c1Ledwrite c4Ledwrite c7Ledwrite c10Ledwrite c14Ledwrite; omega)
                      · refine jr_ic rfl ?_
                        refine jr_iret rfl rfl (Nat.zero_le _) (Nat.zero_le _) ?_
                        refine jr_iret rfl rfl (Nat.zero_le _) (Nat.zero_le _) ?_
                        show jx_W (jm_MD_ledger, d + 40, 0, 0, false, 1, _) _ 0 0 0 [some _, some _, some _, some _] [] _
                        refine jr_iload rfl rfl ?_
                        refine jr_ic rfl ?_
                        refine jr_ic rfl ?_
                        refine jr_cs3 (mc' := 0) (ms' := 0) rfl jm_MD_isIn_n jm_MD_isIn_f rfl rfl rfl rfl rfl (Nat.zero_le _) (Nat.zero_le _) ?_
                        show jx_W (jm_MD_isIn, _, _, _, _, _, _) _ 0 0 0 [some _, some _, some _] [] _
                        refine jr_iload rfl rfl ?_
                        refine jr_iload rfl rfl ?_
                        refine jr_icmp_lt rfl (fun m2MDisIn => ?_) (fun m2MDisIn => ?_)
                        · refine jr_ic rfl ?_
                          refine jr_zret rfl rfl rfl (Nat.zero_le _) (Nat.zero_le _) ?_
                          refine jr_if_eq rfl (fun _ => ?_) (fun z => absurd (by decide) z)
                          refine jr_ic rfl ?_
                          refine jr_iret rfl rfl (Nat.zero_le _) (Nat.zero_le _) ?_
                          first
                            | exact ⟨rfl, hRel0⟩
                            | (exfalso; omega)
                            | (exfalso; simp (disch := omega) only [Int32.lt_iff_toInt_lt, Int32.le_iff_toInt_le, ← Int32.toInt_inj, Int32.reduceToInt, nI_toInt] at c1RephasMonth c5RephasMonth c1Ledwrite c4Ledwrite c7Ledwrite c10Ledwrite c14Ledwrite m2MDisIn; done)
                            | (exfalso; simp (disch := omega) only [Int32.lt_iff_toInt_lt, Int32.le_iff_toInt_le, ← Int32.toInt_inj, Int32.reduceToInt, nI_toInt] at c1RephasMonth c5RephasMonth c1Ledwrite c4Ledwrite c7Ledwrite c10Ledwrite c14Ledwrite m2MDisIn; omega)
                        · refine jr_iload rfl rfl ?_
                          refine jr_iload rfl rfl ?_
                          refine jr_icmp_gt rfl (fun m5MDisIn => ?_) (fun m5MDisIn => ?_)
                          · refine jr_ic rfl ?_
                            refine jr_zret rfl rfl rfl (Nat.zero_le _) (Nat.zero_le _) ?_
                            refine jr_if_eq rfl (fun _ => ?_) (fun z => absurd (by decide) z)
                            refine jr_ic rfl ?_
                            refine jr_iret rfl rfl (Nat.zero_le _) (Nat.zero_le _) ?_
                            first
                              | exact ⟨rfl, hRel0⟩
                              | (exfalso; omega)
                              | (exfalso; simp (disch := omega) only [Int32.lt_iff_toInt_lt, Int32.le_iff_toInt_le, ← Int32.toInt_inj, Int32.reduceToInt, nI_toInt] at c1RephasMonth c5RephasMonth c1Ledwrite c4Ledwrite c7Ledwrite c10Ledwrite c14Ledwrite m2MDisIn m5MDisIn; done)
                              | (exfalso; simp (disch := omega) only [Int32.lt_iff_toInt_lt, Int32.le_iff_toInt_le, ← Int32.toInt_inj, Int32.reduceToInt, nI_toInt] at c1RephasMonth c5RephasMonth c1Ledwrite c4Ledwrite c7Ledwrite c10Ledwrite c14Ledwrite m2MDisIn m5MDisIn; omega)
                          · refine jr_ic rfl ?_
                            refine jr_goto rfl ?_
                            refine jr_zret rfl rfl rfl (Nat.zero_le _) (Nat.zero_le _) ?_
                            refine jr_if_eq rfl (fun z => absurd z (by decide)) (fun _ => ?_)
                            refine jr_iload rfl rfl ?_
                            refine jr_ic rfl ?_
                            refine jr_aload rfl rfl ?_
                            refine jr_getR rfl rfl rfl rfl (Or.inl rfl) ?_
                            refine jr_aload rfl rfl ?_
                            refine jr_getI rfl rfl ?_
                            refine jr_iald (len := 2) rfl rfl hw.1 (by omega) ?_
                            refine jr_ic rfl ?_
                            refine jr_isub rfl ?_
                            refine jr_cs3 (mc' := 0) (ms' := 0) rfl jm_MD_isIn_n jm_MD_isIn_f rfl rfl rfl rfl rfl (Nat.zero_le _) (Nat.zero_le _) ?_
                            show jx_W (jm_MD_isIn, _, _, _, _, _, _) _ 0 0 0 [some _, some _, some _] [] _
                            refine jr_iload rfl rfl ?_
                            refine jr_iload rfl rfl ?_
                            refine jr_icmp_lt rfl (fun m2MDisIn_2 => ?_) (fun m2MDisIn_2 => ?_)
                            · refine jr_ic rfl ?_
                              refine jr_zret rfl rfl rfl (Nat.zero_le _) (Nat.zero_le _) ?_
                              refine jr_if_eq rfl (fun _ => ?_) (fun z => absurd (by decide) z)
                              refine jr_ic rfl ?_
                              refine jr_iret rfl rfl (Nat.zero_le _) (Nat.zero_le _) ?_
                              first
                                | exact ⟨rfl, hRel0⟩
                                | (exfalso; omega)
                                | (exfalso; simp (disch := omega) only [Int32.lt_iff_toInt_lt, Int32.le_iff_toInt_le, ← Int32.toInt_inj, Int32.reduceToInt, nI_toInt] at c1RephasMonth c5RephasMonth c1Ledwrite c4Ledwrite c7Ledwrite c10Ledwrite c14Ledwrite m2MDisIn m5MDisIn m2MDisIn_2; done)
                                | (exfalso; simp (disch := omega) only [Int32.lt_iff_toInt_lt, Int32.le_iff_toInt_le, ← Int32.toInt_inj, Int32.reduceToInt, nI_toInt] at c1RephasMonth c5RephasMonth c1Ledwrite c4Ledwrite c7Ledwrite c10Ledwrite c14Ledwrite m2MDisIn m5MDisIn m2MDisIn_2; omega)
                            · refine jr_iload rfl rfl ?_
                              refine jr_iload rfl rfl ?_
                              refine jr_icmp_gt rfl (fun m5MDisIn_2 => ?_) (fun m5MDisIn_2 => ?_)
                              · refine jr_ic rfl ?_
                                refine jr_zret rfl rfl rfl (Nat.zero_le _) (Nat.zero_le _) ?_
                                refine jr_if_eq rfl (fun _ => ?_) (fun z => absurd (by decide) z)
                                refine jr_ic rfl ?_
                                refine jr_iret rfl rfl (Nat.zero_le _) (Nat.zero_le _) ?_
                                first
                                  | exact ⟨rfl, hRel0⟩
                                  | (exfalso; omega)
                                  | (exfalso; simp (disch := omega) only [Int32.lt_iff_toInt_lt, Int32.le_iff_toInt_le, ← Int32.toInt_inj, Int32.reduceToInt, nI_toInt] at c1RephasMonth c5RephasMonth c1Ledwrite c4Ledwrite c7Ledwrite c10Ledwrite c14Ledwrite m2MDisIn m5MDisIn m2MDisIn_2 m5MDisIn_2; done)
                                  | (exfalso; simp (disch := omega) only [Int32.lt_iff_toInt_lt, Int32.le_iff_toInt_le, ← Int32.toInt_inj, Int32.reduceToInt, nI_toInt] at c1RephasMonth c5RephasMonth c1Ledwrite c4Ledwrite c7Ledwrite c10Ledwrite c14Ledwrite m2MDisIn m5MDisIn m2MDisIn_2 m5MDisIn_2; omega)
                              · refine jr_ic rfl ?_
                                refine jr_goto rfl ?_
                                refine jr_zret rfl rfl rfl (Nat.zero_le _) (Nat.zero_le _) ?_
                                refine jr_if_eq rfl (fun z => absurd z (by decide)) (fun _ => ?_)
                                refine jr_iload rfl rfl ?_
                                refine jr_ic rfl ?_
                                refine jr_ic rfl ?_
                                refine jr_cs3 (mc' := 0) (ms' := 0) rfl jm_MD_isIn_n jm_MD_isIn_f rfl rfl rfl rfl rfl (Nat.zero_le _) (Nat.zero_le _) ?_
                                show jx_W (jm_MD_isIn, _, _, _, _, _, _) _ 0 0 0 [some _, some _, some _] [] _
                                refine jr_iload rfl rfl ?_
                                refine jr_iload rfl rfl ?_
                                refine jr_icmp_lt rfl (fun m2MDisIn_3 => ?_) (fun m2MDisIn_3 => ?_)
                                · refine jr_ic rfl ?_
                                  refine jr_zret rfl rfl rfl (Nat.zero_le _) (Nat.zero_le _) ?_
                                  refine jr_if_eq rfl (fun _ => ?_) (fun z => absurd (by decide) z)
                                  refine jr_ic rfl ?_
                                  refine jr_iret rfl rfl (Nat.zero_le _) (Nat.zero_le _) ?_
                                  first
                                    | exact ⟨rfl, hRel0⟩
                                    | (exfalso; omega)
                                    | (exfalso; simp (disch := omega) only [Int32.lt_iff_toInt_lt, Int32.le_iff_toInt_le, ← Int32.toInt_inj, Int32.reduceToInt, nI_toInt] at c1RephasMonth c5RephasMonth c1Ledwrite c4Ledwrite c7Ledwrite c10Ledwrite c14Ledwrite m2MDisIn m5MDisIn m2MDisIn_2 m5MDisIn_2 m2MDisIn_3; done)
                                    | (exfalso; simp (disch := omega) only [Int32.lt_iff_toInt_lt, Int32.le_iff_toInt_le, ← Int32.toInt_inj, Int32.reduceToInt, nI_toInt] at c1RephasMonth c5RephasMonth c1Ledwrite c4Ledwrite c7Ledwrite c10Ledwrite c14Ledwrite m2MDisIn m5MDisIn m2MDisIn_2 m5MDisIn_2 m2MDisIn_3; omega)
                                · refine jr_iload rfl rfl ?_
                                  refine jr_iload rfl rfl ?_
                                  refine jr_icmp_gt rfl (fun m5MDisIn_3 => ?_) (fun m5MDisIn_3 => ?_)
                                  · refine jr_ic rfl ?_
                                    refine jr_zret rfl rfl rfl (Nat.zero_le _) (Nat.zero_le _) ?_
                                    refine jr_if_eq rfl (fun _ => ?_) (fun z => absurd (by decide) z)
                                    refine jr_ic rfl ?_
                                    refine jr_iret rfl rfl (Nat.zero_le _) (Nat.zero_le _) ?_
                                    first
                                      | exact ⟨rfl, hRel0⟩
                                      | (exfalso; omega)
                                      | (exfalso; simp (disch := omega) only [Int32.lt_iff_toInt_lt, Int32.le_iff_toInt_le, ← Int32.toInt_inj, Int32.reduceToInt, nI_toInt] at c1RephasMonth c5RephasMonth c1Ledwrite c4Ledwrite c7Ledwrite c10Ledwrite c14Ledwrite m2MDisIn m5MDisIn m2MDisIn_2 m5MDisIn_2 m2MDisIn_3 m5MDisIn_3; done)
                                      | (exfalso; simp (disch := omega) only [Int32.lt_iff_toInt_lt, Int32.le_iff_toInt_le, ← Int32.toInt_inj, Int32.reduceToInt, nI_toInt] at c1RephasMonth c5RephasMonth c1Ledwrite c4Ledwrite c7Ledwrite c10Ledwrite c14Ledwrite m2MDisIn m5MDisIn m2MDisIn_2 m5MDisIn_2 m2MDisIn_3 m5MDisIn_3; omega)
                                  · refine jr_ic rfl ?_
                                    refine jr_goto rfl ?_
                                    refine jr_zret rfl rfl rfl (Nat.zero_le _) (Nat.zero_le _) ?_
                                    refine jr_if_eq rfl (fun z => absurd z (by decide)) (fun _ => ?_)
                                    refine jr_aload rfl rfl ?_
                                    refine jr_getI rfl rfl ?_
                                    refine jr_ic rfl ?_
                                    refine jr_icmp_ne rfl (fun m24 => ?_) (fun m24 => ?_)
                                    · first
                                        | (exfalso; omega)
                                        | (exfalso; simp (disch := omega) only [Int32.lt_iff_toInt_lt, Int32.le_iff_toInt_le, ← Int32.toInt_inj, Int32.reduceToInt, nI_toInt] at c1RephasMonth c5RephasMonth c1Ledwrite c4Ledwrite c7Ledwrite c10Ledwrite c14Ledwrite m2MDisIn m5MDisIn m2MDisIn_2 m5MDisIn_2 m2MDisIn_3 m5MDisIn_3 m24; done)
                                        | (exfalso; simp (disch := omega) only [Int32.lt_iff_toInt_lt, Int32.le_iff_toInt_le, ← Int32.toInt_inj, Int32.reduceToInt, nI_toInt] at c1RephasMonth c5RephasMonth c1Ledwrite c4Ledwrite c7Ledwrite c10Ledwrite c14Ledwrite m2MDisIn m5MDisIn m2MDisIn_2 m5MDisIn_2 m2MDisIn_3 m5MDisIn_3 m24; omega)
                                    · refine jr_ic rfl ?_
                                      refine jr_iret rfl rfl (Nat.zero_le _) (Nat.zero_le _) ?_
                                      first
                                        | exact ⟨rfl, hRel0⟩
                                        | (exfalso; omega)
                                        | (exfalso; simp (disch := omega) only [Int32.lt_iff_toInt_lt, Int32.le_iff_toInt_le, ← Int32.toInt_inj, Int32.reduceToInt, nI_toInt] at c1RephasMonth c5RephasMonth c1Ledwrite c4Ledwrite c7Ledwrite c10Ledwrite c14Ledwrite m2MDisIn m5MDisIn m2MDisIn_2 m5MDisIn_2 m2MDisIn_3 m5MDisIn_3 m24; done)
                                        | (exfalso; simp (disch := omega) only [Int32.lt_iff_toInt_lt, Int32.le_iff_toInt_le, ← Int32.toInt_inj, Int32.reduceToInt, nI_toInt] at c1RephasMonth c5RephasMonth c1Ledwrite c4Ledwrite c7Ledwrite c10Ledwrite c14Ledwrite m2MDisIn m5MDisIn m2MDisIn_2 m5MDisIn_2 m2MDisIn_3 m5MDisIn_3 m24; omega)
      · show jx_W (jm_JV_ledger, d + 40, 0, 0, false, 0, _) _ 0 0 0 [some (jv_r 10 0), some (jv_i (nI q)), some (jv_i (nI m)), some (jv_i z)] [] _
        refine jr_aload rfl rfl ?_
        refine jr_getM rfl rfl rfl rfl hto ?_
        refine jr_iload rfl rfl ?_
        refine jr_cv1 (mc' := 0) (ms' := 0) rfl jm_Rep_hasMonth_n jm_Rep_hasMonth_f rfl rfl rfl rfl rfl rfl rfl (Nat.zero_le _) (Nat.zero_le _) ?_
        show jx_W (jm_Rep_hasMonth, _, _, _, _, _, _) _ 0 0 0 [some _, some _] [] _
        refine jr_iload rfl rfl ?_
        refine jr_if_lt rfl (fun c1RephasMonth => ?_) (fun c1RephasMonth => ?_)
        · refine jr_ic rfl ?_
          refine jr_zret rfl rfl rfl (Nat.zero_le _) (Nat.zero_le _) ?_
          refine jr_if_ne rfl (fun z => absurd (by decide) z) (fun _ => ?_)
          refine jr_ic rfl ?_
          refine jr_iret rfl rfl (Nat.zero_le _) (Nat.zero_le _) ?_
          show jx_W (jm_MD_ledger, d + 40, 0, 0, false, 1, _) _ 0 0 0 [some _, some _, some _, some _] [] _
          refine jr_iload rfl rfl ?_
          refine jr_ic rfl ?_
          refine jr_ic rfl ?_
          refine jr_cs3 (mc' := 0) (ms' := 0) rfl jm_MD_isIn_n jm_MD_isIn_f rfl rfl rfl rfl rfl (Nat.zero_le _) (Nat.zero_le _) ?_
          show jx_W (jm_MD_isIn, _, _, _, _, _, _) _ 0 0 0 [some _, some _, some _] [] _
          refine jr_iload rfl rfl ?_
          refine jr_iload rfl rfl ?_
          refine jr_icmp_lt rfl (fun m2MDisIn => ?_) (fun m2MDisIn => ?_)
          · refine jr_ic rfl ?_
            refine jr_zret rfl rfl rfl (Nat.zero_le _) (Nat.zero_le _) ?_
            refine jr_if_eq rfl (fun _ => ?_) (fun z => absurd (by decide) z)
            refine jr_ic rfl ?_
            refine jr_iret rfl rfl (Nat.zero_le _) (Nat.zero_le _) ?_
            first
              | exact ⟨rfl, hRel0⟩
              | (exfalso; omega)
              | (exfalso; simp (disch := omega) only [Int32.lt_iff_toInt_lt, Int32.le_iff_toInt_le, ← Int32.toInt_inj, Int32.reduceToInt, nI_toInt] at c1RephasMonth m2MDisIn; done)
              | (exfalso; simp (disch := omega) only [Int32.lt_iff_toInt_lt, Int32.le_iff_toInt_le, ← Int32.toInt_inj, Int32.reduceToInt, nI_toInt] at c1RephasMonth m2MDisIn; omega)
          · refine jr_iload rfl rfl ?_
            refine jr_iload rfl rfl ?_
            refine jr_icmp_gt rfl (fun m5MDisIn => ?_) (fun m5MDisIn => ?_)
            · refine jr_ic rfl ?_
              refine jr_zret rfl rfl rfl (Nat.zero_le _) (Nat.zero_le _) ?_
              refine jr_if_eq rfl (fun _ => ?_) (fun z => absurd (by decide) z)
              refine jr_ic rfl ?_
              refine jr_iret rfl rfl (Nat.zero_le _) (Nat.zero_le _) ?_
              first
                | exact ⟨rfl, hRel0⟩
                | (exfalso; omega)
                | (exfalso; simp (disch := omega) only [Int32.lt_iff_toInt_lt, Int32.le_iff_toInt_le, ← Int32.toInt_inj, Int32.reduceToInt, nI_toInt] at c1RephasMonth m2MDisIn m5MDisIn; done)
                | (exfalso; simp (disch := omega) only [Int32.lt_iff_toInt_lt, Int32.le_iff_toInt_le, ← Int32.toInt_inj, Int32.reduceToInt, nI_toInt] at c1RephasMonth m2MDisIn m5MDisIn; omega)
            · refine jr_ic rfl ?_
              refine jr_goto rfl ?_
              refine jr_zret rfl rfl rfl (Nat.zero_le _) (Nat.zero_le _) ?_
              refine jr_if_eq rfl (fun z => absurd z (by decide)) (fun _ => ?_)
              refine jr_iload rfl rfl ?_
              refine jr_ic rfl ?_
              refine jr_aload rfl rfl ?_
              refine jr_getR rfl rfl rfl rfl (Or.inl rfl) ?_
              refine jr_aload rfl rfl ?_
              refine jr_getI rfl rfl ?_
              refine jr_iald (len := 2) rfl rfl hw.1 (by omega) ?_
              refine jr_ic rfl ?_
              refine jr_isub rfl ?_
              refine jr_cs3 (mc' := 0) (ms' := 0) rfl jm_MD_isIn_n jm_MD_isIn_f rfl rfl rfl rfl rfl (Nat.zero_le _) (Nat.zero_le _) ?_
              show jx_W (jm_MD_isIn, _, _, _, _, _, _) _ 0 0 0 [some _, some _, some _] [] _
              refine jr_iload rfl rfl ?_
              refine jr_iload rfl rfl ?_
              refine jr_icmp_lt rfl (fun m2MDisIn_2 => ?_) (fun m2MDisIn_2 => ?_)
              · refine jr_ic rfl ?_
                refine jr_zret rfl rfl rfl (Nat.zero_le _) (Nat.zero_le _) ?_
                refine jr_if_eq rfl (fun _ => ?_) (fun z => absurd (by decide) z)
                refine jr_ic rfl ?_
                refine jr_iret rfl rfl (Nat.zero_le _) (Nat.zero_le _) ?_
                first
                  | exact ⟨rfl, hRel0⟩
                  | (exfalso; omega)
                  | (exfalso; simp (disch := omega) only [Int32.lt_iff_toInt_lt, Int32.le_iff_toInt_le, ← Int32.toInt_inj, Int32.reduceToInt, nI_toInt] at c1RephasMonth m2MDisIn m5MDisIn m2MDisIn_2; done)
                  | (exfalso; simp (disch := omega) only [Int32.lt_iff_toInt_lt, Int32.le_iff_toInt_le, ← Int32.toInt_inj, Int32.reduceToInt, nI_toInt] at c1RephasMonth m2MDisIn m5MDisIn m2MDisIn_2; omega)
              · refine jr_iload rfl rfl ?_
                refine jr_iload rfl rfl ?_
                refine jr_icmp_gt rfl (fun m5MDisIn_2 => ?_) (fun m5MDisIn_2 => ?_)
                · refine jr_ic rfl ?_
                  refine jr_zret rfl rfl rfl (Nat.zero_le _) (Nat.zero_le _) ?_
                  refine jr_if_eq rfl (fun _ => ?_) (fun z => absurd (by decide) z)
                  refine jr_ic rfl ?_
                  refine jr_iret rfl rfl (Nat.zero_le _) (Nat.zero_le _) ?_
                  first
                    | exact ⟨rfl, hRel0⟩
                    | (exfalso; omega)
                    | (exfalso; simp (disch := omega) only [Int32.lt_iff_toInt_lt, Int32.le_iff_toInt_le, ← Int32.toInt_inj, Int32.reduceToInt, nI_toInt] at c1RephasMonth m2MDisIn m5MDisIn m2MDisIn_2 m5MDisIn_2; done)
                    | (exfalso; simp (disch := omega) only [Int32.lt_iff_toInt_lt, Int32.le_iff_toInt_le, ← Int32.toInt_inj, Int32.reduceToInt, nI_toInt] at c1RephasMonth m2MDisIn m5MDisIn m2MDisIn_2 m5MDisIn_2; omega)
                · refine jr_ic rfl ?_
                  refine jr_goto rfl ?_
                  refine jr_zret rfl rfl rfl (Nat.zero_le _) (Nat.zero_le _) ?_
                  refine jr_if_eq rfl (fun z => absurd z (by decide)) (fun _ => ?_)
                  refine jr_iload rfl rfl ?_
                  refine jr_ic rfl ?_
                  refine jr_ic rfl ?_
                  refine jr_cs3 (mc' := 0) (ms' := 0) rfl jm_MD_isIn_n jm_MD_isIn_f rfl rfl rfl rfl rfl (Nat.zero_le _) (Nat.zero_le _) ?_
                  show jx_W (jm_MD_isIn, _, _, _, _, _, _) _ 0 0 0 [some _, some _, some _] [] _
                  refine jr_iload rfl rfl ?_
                  refine jr_iload rfl rfl ?_
                  refine jr_icmp_lt rfl (fun m2MDisIn_3 => ?_) (fun m2MDisIn_3 => ?_)
                  · refine jr_ic rfl ?_
                    refine jr_zret rfl rfl rfl (Nat.zero_le _) (Nat.zero_le _) ?_
                    refine jr_if_eq rfl (fun _ => ?_) (fun z => absurd (by decide) z)
                    refine jr_ic rfl ?_
                    refine jr_iret rfl rfl (Nat.zero_le _) (Nat.zero_le _) ?_
                    first
                      | exact ⟨rfl, hRel0⟩
                      | (exfalso; omega)
                      | (exfalso; simp (disch := omega) only [Int32.lt_iff_toInt_lt, Int32.le_iff_toInt_le, ← Int32.toInt_inj, Int32.reduceToInt, nI_toInt] at c1RephasMonth m2MDisIn m5MDisIn m2MDisIn_2 m5MDisIn_2 m2MDisIn_3; done)
                      | (exfalso; simp (disch := omega) only [Int32.lt_iff_toInt_lt, Int32.le_iff_toInt_le, ← Int32.toInt_inj, Int32.reduceToInt, nI_toInt] at c1RephasMonth m2MDisIn m5MDisIn m2MDisIn_2 m5MDisIn_2 m2MDisIn_3; omega)
                  · refine jr_iload rfl rfl ?_
                    refine jr_iload rfl rfl ?_
                    refine jr_icmp_gt rfl (fun m5MDisIn_3 => ?_) (fun m5MDisIn_3 => ?_)
                    · refine jr_ic rfl ?_
                      refine jr_zret rfl rfl rfl (Nat.zero_le _) (Nat.zero_le _) ?_
                      refine jr_if_eq rfl (fun _ => ?_) (fun z => absurd (by decide) z)
                      refine jr_ic rfl ?_
                      refine jr_iret rfl rfl (Nat.zero_le _) (Nat.zero_le _) ?_
                      first
                        | exact ⟨rfl, hRel0⟩
                        | (exfalso; omega)
                        | (exfalso; simp (disch := omega) only [Int32.lt_iff_toInt_lt, Int32.le_iff_toInt_le, ← Int32.toInt_inj, Int32.reduceToInt, nI_toInt] at c1RephasMonth m2MDisIn m5MDisIn m2MDisIn_2 m5MDisIn_2 m2MDisIn_3 m5MDisIn_3; done)
                        | (exfalso; simp (disch := omega) only [Int32.lt_iff_toInt_lt, Int32.le_iff_toInt_le, ← Int32.toInt_inj, Int32.reduceToInt, nI_toInt] at c1RephasMonth m2MDisIn m5MDisIn m2MDisIn_2 m5MDisIn_2 m2MDisIn_3 m5MDisIn_3; omega)
                    · refine jr_ic rfl ?_
                      refine jr_goto rfl ?_
                      refine jr_zret rfl rfl rfl (Nat.zero_le _) (Nat.zero_le _) ?_
                      refine jr_if_eq rfl (fun z => absurd z (by decide)) (fun _ => ?_)
                      refine jr_aload rfl rfl ?_
                      refine jr_getI rfl rfl ?_
                      refine jr_ic rfl ?_
                      refine jr_icmp_ne rfl (fun m24 => ?_) (fun m24 => ?_)
                      · first
                          | (exfalso; omega)
                          | (exfalso; simp (disch := omega) only [Int32.lt_iff_toInt_lt, Int32.le_iff_toInt_le, ← Int32.toInt_inj, Int32.reduceToInt, nI_toInt] at c1RephasMonth m2MDisIn m5MDisIn m2MDisIn_2 m5MDisIn_2 m2MDisIn_3 m5MDisIn_3 m24; done)
                          | (exfalso; simp (disch := omega) only [Int32.lt_iff_toInt_lt, Int32.le_iff_toInt_le, ← Int32.toInt_inj, Int32.reduceToInt, nI_toInt] at c1RephasMonth m2MDisIn m5MDisIn m2MDisIn_2 m5MDisIn_2 m2MDisIn_3 m5MDisIn_3 m24; omega)
                      · refine jr_ic rfl ?_
                        refine jr_iret rfl rfl (Nat.zero_le _) (Nat.zero_le _) ?_
                        first
                          | exact ⟨rfl, hRel0⟩
                          | (exfalso; omega)
                          | (exfalso; simp (disch := omega) only [Int32.lt_iff_toInt_lt, Int32.le_iff_toInt_le, ← Int32.toInt_inj, Int32.reduceToInt, nI_toInt] at c1RephasMonth m2MDisIn m5MDisIn m2MDisIn_2 m5MDisIn_2 m2MDisIn_3 m5MDisIn_3 m24; done)
                          | (exfalso; simp (disch := omega) only [Int32.lt_iff_toInt_lt, Int32.le_iff_toInt_le, ← Int32.toInt_inj, Int32.reduceToInt, nI_toInt] at c1RephasMonth m2MDisIn m5MDisIn m2MDisIn_2 m5MDisIn_2 m2MDisIn_3 m5MDisIn_3 m24; omega)
        · refine jr_iload rfl rfl ?_
          refine jr_aload rfl rfl ?_
          refine jr_getI rfl rfl ?_
          refine jr_icmp_ge rfl (fun c5RephasMonth => ?_) (fun c5RephasMonth => ?_)
          · refine jr_ic rfl ?_
            refine jr_zret rfl rfl rfl (Nat.zero_le _) (Nat.zero_le _) ?_
            refine jr_if_ne rfl (fun z => absurd (by decide) z) (fun _ => ?_)
            refine jr_ic rfl ?_
            refine jr_iret rfl rfl (Nat.zero_le _) (Nat.zero_le _) ?_
            show jx_W (jm_MD_ledger, d + 40, 0, 0, false, 1, _) _ 0 0 0 [some _, some _, some _, some _] [] _
            refine jr_iload rfl rfl ?_
            refine jr_ic rfl ?_
            refine jr_ic rfl ?_
            refine jr_cs3 (mc' := 0) (ms' := 0) rfl jm_MD_isIn_n jm_MD_isIn_f rfl rfl rfl rfl rfl (Nat.zero_le _) (Nat.zero_le _) ?_
            show jx_W (jm_MD_isIn, _, _, _, _, _, _) _ 0 0 0 [some _, some _, some _] [] _
            refine jr_iload rfl rfl ?_
            refine jr_iload rfl rfl ?_
            refine jr_icmp_lt rfl (fun m2MDisIn => ?_) (fun m2MDisIn => ?_)
            · refine jr_ic rfl ?_
              refine jr_zret rfl rfl rfl (Nat.zero_le _) (Nat.zero_le _) ?_
              refine jr_if_eq rfl (fun _ => ?_) (fun z => absurd (by decide) z)
              refine jr_ic rfl ?_
              refine jr_iret rfl rfl (Nat.zero_le _) (Nat.zero_le _) ?_
              first
                | exact ⟨rfl, hRel0⟩
                | (exfalso; omega)
                | (exfalso; simp (disch := omega) only [Int32.lt_iff_toInt_lt, Int32.le_iff_toInt_le, ← Int32.toInt_inj, Int32.reduceToInt, nI_toInt] at c1RephasMonth c5RephasMonth m2MDisIn; done)
                | (exfalso; simp (disch := omega) only [Int32.lt_iff_toInt_lt, Int32.le_iff_toInt_le, ← Int32.toInt_inj, Int32.reduceToInt, nI_toInt] at c1RephasMonth c5RephasMonth m2MDisIn; omega)
            · refine jr_iload rfl rfl ?_
              refine jr_iload rfl rfl ?_
              refine jr_icmp_gt rfl (fun m5MDisIn => ?_) (fun m5MDisIn => ?_)
              · refine jr_ic rfl ?_
                refine jr_zret rfl rfl rfl (Nat.zero_le _) (Nat.zero_le _) ?_
                refine jr_if_eq rfl (fun _ => ?_) (fun z => absurd (by decide) z)
                refine jr_ic rfl ?_
                refine jr_iret rfl rfl (Nat.zero_le _) (Nat.zero_le _) ?_
                first
                  | exact ⟨rfl, hRel0⟩
                  | (exfalso; omega)
                  | (exfalso; simp (disch := omega) only [Int32.lt_iff_toInt_lt, Int32.le_iff_toInt_le, ← Int32.toInt_inj, Int32.reduceToInt, nI_toInt] at c1RephasMonth c5RephasMonth m2MDisIn m5MDisIn; done)
                  | (exfalso; simp (disch := omega) only [Int32.lt_iff_toInt_lt, Int32.le_iff_toInt_le, ← Int32.toInt_inj, Int32.reduceToInt, nI_toInt] at c1RephasMonth c5RephasMonth m2MDisIn m5MDisIn; omega)
              · refine jr_ic rfl ?_
                refine jr_goto rfl ?_
                refine jr_zret rfl rfl rfl (Nat.zero_le _) (Nat.zero_le _) ?_
                refine jr_if_eq rfl (fun z => absurd z (by decide)) (fun _ => ?_)
                refine jr_iload rfl rfl ?_
                refine jr_ic rfl ?_
                refine jr_aload rfl rfl ?_
                refine jr_getR rfl rfl rfl rfl (Or.inl rfl) ?_
                refine jr_aload rfl rfl ?_
                refine jr_getI rfl rfl ?_
                refine jr_iald (len := 2) rfl rfl hw.1 (by omega) ?_
                refine jr_ic rfl ?_
                refine jr_isub rfl ?_
                refine jr_cs3 (mc' := 0) (ms' := 0) rfl jm_MD_isIn_n jm_MD_isIn_f rfl rfl rfl rfl rfl (Nat.zero_le _) (Nat.zero_le _) ?_
                show jx_W (jm_MD_isIn, _, _, _, _, _, _) _ 0 0 0 [some _, some _, some _] [] _
                refine jr_iload rfl rfl ?_
                refine jr_iload rfl rfl ?_
                refine jr_icmp_lt rfl (fun m2MDisIn_2 => ?_) (fun m2MDisIn_2 => ?_)
                · refine jr_ic rfl ?_
                  refine jr_zret rfl rfl rfl (Nat.zero_le _) (Nat.zero_le _) ?_
                  refine jr_if_eq rfl (fun _ => ?_) (fun z => absurd (by decide) z)
                  refine jr_ic rfl ?_
                  refine jr_iret rfl rfl (Nat.zero_le _) (Nat.zero_le _) ?_
                  first
                    | exact ⟨rfl, hRel0⟩
                    | (exfalso; omega)
                    | (exfalso; simp (disch := omega) only [Int32.lt_iff_toInt_lt, Int32.le_iff_toInt_le, ← Int32.toInt_inj, Int32.reduceToInt, nI_toInt] at c1RephasMonth c5RephasMonth m2MDisIn m5MDisIn m2MDisIn_2; done)
                    | (exfalso; simp (disch := omega) only [Int32.lt_iff_toInt_lt, Int32.le_iff_toInt_le, ← Int32.toInt_inj, Int32.reduceToInt, nI_toInt] at c1RephasMonth c5RephasMonth m2MDisIn m5MDisIn m2MDisIn_2; omega)
                · refine jr_iload rfl rfl ?_
                  refine jr_iload rfl rfl ?_
                  refine jr_icmp_gt rfl (fun m5MDisIn_2 => ?_) (fun m5MDisIn_2 => ?_)
                  · refine jr_ic rfl ?_
                    refine jr_zret rfl rfl rfl (Nat.zero_le _) (Nat.zero_le _) ?_
                    refine jr_if_eq rfl (fun _ => ?_) (fun z => absurd (by decide) z)
                    refine jr_ic rfl ?_
                    refine jr_iret rfl rfl (Nat.zero_le _) (Nat.zero_le _) ?_
                    first
                      | exact ⟨rfl, hRel0⟩
                      | (exfalso; omega)
                      | (exfalso; simp (disch := omega) only [Int32.lt_iff_toInt_lt, Int32.le_iff_toInt_le, ← Int32.toInt_inj, Int32.reduceToInt, nI_toInt] at c1RephasMonth c5RephasMonth m2MDisIn m5MDisIn m2MDisIn_2 m5MDisIn_2; done)
                      | (exfalso; simp (disch := omega) only [Int32.lt_iff_toInt_lt, Int32.le_iff_toInt_le, ← Int32.toInt_inj, Int32.reduceToInt, nI_toInt] at c1RephasMonth c5RephasMonth m2MDisIn m5MDisIn m2MDisIn_2 m5MDisIn_2; omega)
                  · refine jr_ic rfl ?_
                    refine jr_goto rfl ?_
                    refine jr_zret rfl rfl rfl (Nat.zero_le _) (Nat.zero_le _) ?_
                    refine jr_if_eq rfl (fun z => absurd z (by decide)) (fun _ => ?_)
                    refine jr_iload rfl rfl ?_
                    refine jr_ic rfl ?_
                    refine jr_ic rfl ?_
                    refine jr_cs3 (mc' := 0) (ms' := 0) rfl jm_MD_isIn_n jm_MD_isIn_f rfl rfl rfl rfl rfl (Nat.zero_le _) (Nat.zero_le _) ?_
                    show jx_W (jm_MD_isIn, _, _, _, _, _, _) _ 0 0 0 [some _, some _, some _] [] _
                    refine jr_iload rfl rfl ?_
                    refine jr_iload rfl rfl ?_
                    refine jr_icmp_lt rfl (fun m2MDisIn_3 => ?_) (fun m2MDisIn_3 => ?_)
                    · refine jr_ic rfl ?_
                      refine jr_zret rfl rfl rfl (Nat.zero_le _) (Nat.zero_le _) ?_
                      refine jr_if_eq rfl (fun _ => ?_) (fun z => absurd (by decide) z)
                      refine jr_ic rfl ?_
                      refine jr_iret rfl rfl (Nat.zero_le _) (Nat.zero_le _) ?_
                      first
                        | exact ⟨rfl, hRel0⟩
                        | (exfalso; omega)
                        | (exfalso; simp (disch := omega) only [Int32.lt_iff_toInt_lt, Int32.le_iff_toInt_le, ← Int32.toInt_inj, Int32.reduceToInt, nI_toInt] at c1RephasMonth c5RephasMonth m2MDisIn m5MDisIn m2MDisIn_2 m5MDisIn_2 m2MDisIn_3; done)
                        | (exfalso; simp (disch := omega) only [Int32.lt_iff_toInt_lt, Int32.le_iff_toInt_le, ← Int32.toInt_inj, Int32.reduceToInt, nI_toInt] at c1RephasMonth c5RephasMonth m2MDisIn m5MDisIn m2MDisIn_2 m5MDisIn_2 m2MDisIn_3; omega)
                    · refine jr_iload rfl rfl ?_
                      refine jr_iload rfl rfl ?_
                      refine jr_icmp_gt rfl (fun m5MDisIn_3 => ?_) (fun m5MDisIn_3 => ?_)
                      · refine jr_ic rfl ?_
                        refine jr_zret rfl rfl rfl (Nat.zero_le _) (Nat.zero_le _) ?_
                        refine jr_if_eq rfl (fun _ => ?_) (fun z => absurd (by decide) z)
                        refine jr_ic rfl ?_
                        refine jr_iret rfl rfl (Nat.zero_le _) (Nat.zero_le _) ?_
                        first
                          | exact ⟨rfl, hRel0⟩
                          | (exfalso; omega)
                          | (exfalso; simp (disch := omega) only [Int32.lt_iff_toInt_lt, Int32.le_iff_toInt_le, ← Int32.toInt_inj, Int32.reduceToInt, nI_toInt] at c1RephasMonth c5RephasMonth m2MDisIn m5MDisIn m2MDisIn_2 m5MDisIn_2 m2MDisIn_3 m5MDisIn_3; done)
                          | (exfalso; simp (disch := omega) only [Int32.lt_iff_toInt_lt, Int32.le_iff_toInt_le, ← Int32.toInt_inj, Int32.reduceToInt, nI_toInt] at c1RephasMonth c5RephasMonth m2MDisIn m5MDisIn m2MDisIn_2 m5MDisIn_2 m2MDisIn_3 m5MDisIn_3; omega)
                      · refine jr_ic rfl ?_
                        refine jr_goto rfl ?_
                        refine jr_zret rfl rfl rfl (Nat.zero_le _) (Nat.zero_le _) ?_
                        refine jr_if_eq rfl (fun z => absurd z (by decide)) (fun _ => ?_)
                        refine jr_aload rfl rfl ?_
                        refine jr_getI rfl rfl ?_
                        refine jr_ic rfl ?_
                        refine jr_icmp_ne rfl (fun m24 => ?_) (fun m24 => ?_)
                        · first
                            | (exfalso; omega)
                            | (exfalso; simp (disch := omega) only [Int32.lt_iff_toInt_lt, Int32.le_iff_toInt_le, ← Int32.toInt_inj, Int32.reduceToInt, nI_toInt] at c1RephasMonth c5RephasMonth m2MDisIn m5MDisIn m2MDisIn_2 m5MDisIn_2 m2MDisIn_3 m5MDisIn_3 m24; done)
                            | (exfalso; simp (disch := omega) only [Int32.lt_iff_toInt_lt, Int32.le_iff_toInt_le, ← Int32.toInt_inj, Int32.reduceToInt, nI_toInt] at c1RephasMonth c5RephasMonth m2MDisIn m5MDisIn m2MDisIn_2 m5MDisIn_2 m2MDisIn_3 m5MDisIn_3 m24; omega)
                        · refine jr_ic rfl ?_
                          refine jr_iret rfl rfl (Nat.zero_le _) (Nat.zero_le _) ?_
                          first
                            | exact ⟨rfl, hRel0⟩
                            | (exfalso; omega)
                            | (exfalso; simp (disch := omega) only [Int32.lt_iff_toInt_lt, Int32.le_iff_toInt_le, ← Int32.toInt_inj, Int32.reduceToInt, nI_toInt] at c1RephasMonth c5RephasMonth m2MDisIn m5MDisIn m2MDisIn_2 m5MDisIn_2 m2MDisIn_3 m5MDisIn_3 m24; done)
                            | (exfalso; simp (disch := omega) only [Int32.lt_iff_toInt_lt, Int32.le_iff_toInt_le, ← Int32.toInt_inj, Int32.reduceToInt, nI_toInt] at c1RephasMonth c5RephasMonth m2MDisIn m5MDisIn m2MDisIn_2 m5MDisIn_2 m2MDisIn_3 m5MDisIn_3 m24; omega)
          · refine jr_ic rfl ?_
            refine jr_goto rfl ?_
            refine jr_zret rfl rfl rfl (Nat.zero_le _) (Nat.zero_le _) ?_
            refine jr_if_ne rfl (fun _ => ?_) (fun z => absurd z (by decide))
            refine jr_aload rfl rfl ?_
            refine jr_getR rfl rfl rfl rfl (Or.inl rfl) ?_
            refine jr_iload rfl rfl ?_
            refine jr_iload rfl rfl ?_
            refine jr_iload rfl rfl ?_
            refine jr_aload rfl rfl ?_
            refine jr_getI rfl rfl ?_
            refine jr_cv4 (mc' := 0) (ms' := 0) rfl jm_Led_write_n jm_Led_write_f rfl rfl rfl rfl rfl rfl rfl (Nat.zero_le _) (Nat.zero_le _) ?_
            show jx_W (jm_Led_write, _, _, _, _, _, _) _ 0 0 0 [some _, some _, some _, some _, some _] [] _
            refine jr_iload rfl rfl ?_
            refine jr_if_lt rfl (fun c1Ledwrite => ?_) (fun c1Ledwrite => ?_)
            · refine jr_ic rfl ?_
              refine jr_iret rfl rfl (Nat.zero_le _) (Nat.zero_le _) ?_
              refine jr_iret rfl rfl (Nat.zero_le _) (Nat.zero_le _) ?_
              show jx_W (jm_MD_ledger, d + 40, 0, 0, false, 1, _) _ 0 0 0 [some _, some _, some _, some _] [] _
              refine jr_iload rfl rfl ?_
              refine jr_ic rfl ?_
              refine jr_ic rfl ?_
              refine jr_cs3 (mc' := 0) (ms' := 0) rfl jm_MD_isIn_n jm_MD_isIn_f rfl rfl rfl rfl rfl (Nat.zero_le _) (Nat.zero_le _) ?_
              show jx_W (jm_MD_isIn, _, _, _, _, _, _) _ 0 0 0 [some _, some _, some _] [] _
              refine jr_iload rfl rfl ?_
              refine jr_iload rfl rfl ?_
              refine jr_icmp_lt rfl (fun m2MDisIn => ?_) (fun m2MDisIn => ?_)
              · refine jr_ic rfl ?_
                refine jr_zret rfl rfl rfl (Nat.zero_le _) (Nat.zero_le _) ?_
                refine jr_if_eq rfl (fun _ => ?_) (fun z => absurd (by decide) z)
                refine jr_ic rfl ?_
                refine jr_iret rfl rfl (Nat.zero_le _) (Nat.zero_le _) ?_
                first
                  | exact ⟨rfl, hRel0⟩
                  | (exfalso; omega)
                  | (exfalso; simp (disch := omega) only [Int32.lt_iff_toInt_lt, Int32.le_iff_toInt_le, ← Int32.toInt_inj, Int32.reduceToInt, nI_toInt] at c1RephasMonth c5RephasMonth c1Ledwrite m2MDisIn; done)
                  | (exfalso; simp (disch := omega) only [Int32.lt_iff_toInt_lt, Int32.le_iff_toInt_le, ← Int32.toInt_inj, Int32.reduceToInt, nI_toInt] at c1RephasMonth c5RephasMonth c1Ledwrite m2MDisIn; omega)
              · refine jr_iload rfl rfl ?_
                refine jr_iload rfl rfl ?_
                refine jr_icmp_gt rfl (fun m5MDisIn => ?_) (fun m5MDisIn => ?_)
                · refine jr_ic rfl ?_
                  refine jr_zret rfl rfl rfl (Nat.zero_le _) (Nat.zero_le _) ?_
                  refine jr_if_eq rfl (fun _ => ?_) (fun z => absurd (by decide) z)
                  refine jr_ic rfl ?_
                  refine jr_iret rfl rfl (Nat.zero_le _) (Nat.zero_le _) ?_
                  first
                    | exact ⟨rfl, hRel0⟩
                    | (exfalso; omega)
                    | (exfalso; simp (disch := omega) only [Int32.lt_iff_toInt_lt, Int32.le_iff_toInt_le, ← Int32.toInt_inj, Int32.reduceToInt, nI_toInt] at c1RephasMonth c5RephasMonth c1Ledwrite m2MDisIn m5MDisIn; done)
                    | (exfalso; simp (disch := omega) only [Int32.lt_iff_toInt_lt, Int32.le_iff_toInt_le, ← Int32.toInt_inj, Int32.reduceToInt, nI_toInt] at c1RephasMonth c5RephasMonth c1Ledwrite m2MDisIn m5MDisIn; omega)
                · refine jr_ic rfl ?_
                  refine jr_goto rfl ?_
                  refine jr_zret rfl rfl rfl (Nat.zero_le _) (Nat.zero_le _) ?_
                  refine jr_if_eq rfl (fun z => absurd z (by decide)) (fun _ => ?_)
                  refine jr_iload rfl rfl ?_
                  refine jr_ic rfl ?_
                  refine jr_aload rfl rfl ?_
                  refine jr_getR rfl rfl rfl rfl (Or.inl rfl) ?_
                  refine jr_aload rfl rfl ?_
                  refine jr_getI rfl rfl ?_
                  refine jr_iald (len := 2) rfl rfl hw.1 (by omega) ?_
                  refine jr_ic rfl ?_
                  refine jr_isub rfl ?_
                  refine jr_cs3 (mc' := 0) (ms' := 0) rfl jm_MD_isIn_n jm_MD_isIn_f rfl rfl rfl rfl rfl (Nat.zero_le _) (Nat.zero_le _) ?_
                  show jx_W (jm_MD_isIn, _, _, _, _, _, _) _ 0 0 0 [some _, some _, some _] [] _
                  refine jr_iload rfl rfl ?_
                  refine jr_iload rfl rfl ?_
                  refine jr_icmp_lt rfl (fun m2MDisIn_2 => ?_) (fun m2MDisIn_2 => ?_)
                  · refine jr_ic rfl ?_
                    refine jr_zret rfl rfl rfl (Nat.zero_le _) (Nat.zero_le _) ?_
                    refine jr_if_eq rfl (fun _ => ?_) (fun z => absurd (by decide) z)
                    refine jr_ic rfl ?_
                    refine jr_iret rfl rfl (Nat.zero_le _) (Nat.zero_le _) ?_
                    first
                      | exact ⟨rfl, hRel0⟩
                      | (exfalso; omega)
                      | (exfalso; simp (disch := omega) only [Int32.lt_iff_toInt_lt, Int32.le_iff_toInt_le, ← Int32.toInt_inj, Int32.reduceToInt, nI_toInt] at c1RephasMonth c5RephasMonth c1Ledwrite m2MDisIn m5MDisIn m2MDisIn_2; done)
                      | (exfalso; simp (disch := omega) only [Int32.lt_iff_toInt_lt, Int32.le_iff_toInt_le, ← Int32.toInt_inj, Int32.reduceToInt, nI_toInt] at c1RephasMonth c5RephasMonth c1Ledwrite m2MDisIn m5MDisIn m2MDisIn_2; omega)
                  · refine jr_iload rfl rfl ?_
                    refine jr_iload rfl rfl ?_
                    refine jr_icmp_gt rfl (fun m5MDisIn_2 => ?_) (fun m5MDisIn_2 => ?_)
                    · refine jr_ic rfl ?_
                      refine jr_zret rfl rfl rfl (Nat.zero_le _) (Nat.zero_le _) ?_
                      refine jr_if_eq rfl (fun _ => ?_) (fun z => absurd (by decide) z)
                      refine jr_ic rfl ?_
                      refine jr_iret rfl rfl (Nat.zero_le _) (Nat.zero_le _) ?_
                      first
                        | exact ⟨rfl, hRel0⟩
                        | (exfalso; omega)
                        | (exfalso; simp (disch := omega) only [Int32.lt_iff_toInt_lt, Int32.le_iff_toInt_le, ← Int32.toInt_inj, Int32.reduceToInt, nI_toInt] at c1RephasMonth c5RephasMonth c1Ledwrite m2MDisIn m5MDisIn m2MDisIn_2 m5MDisIn_2; done)
                        | (exfalso; simp (disch := omega) only [Int32.lt_iff_toInt_lt, Int32.le_iff_toInt_le, ← Int32.toInt_inj, Int32.reduceToInt, nI_toInt] at c1RephasMonth c5RephasMonth c1Ledwrite m2MDisIn m5MDisIn m2MDisIn_2 m5MDisIn_2; omega)
                    · refine jr_ic rfl ?_
                      refine jr_goto rfl ?_
                      refine jr_zret rfl rfl rfl (Nat.zero_le _) (Nat.zero_le _) ?_
                      refine jr_if_eq rfl (fun z => absurd z (by decide)) (fun _ => ?_)
                      refine jr_iload rfl rfl ?_
                      refine jr_ic rfl ?_
                      refine jr_ic rfl ?_
                      refine jr_cs3 (mc' := 0) (ms' := 0) rfl jm_MD_isIn_n jm_MD_isIn_f rfl rfl rfl rfl rfl (Nat.zero_le _) (Nat.zero_le _) ?_
                      show jx_W (jm_MD_isIn, _, _, _, _, _, _) _ 0 0 0 [some _, some _, some _] [] _
                      refine jr_iload rfl rfl ?_
                      refine jr_iload rfl rfl ?_
                      refine jr_icmp_lt rfl (fun m2MDisIn_3 => ?_) (fun m2MDisIn_3 => ?_)
                      · refine jr_ic rfl ?_
                        refine jr_zret rfl rfl rfl (Nat.zero_le _) (Nat.zero_le _) ?_
                        refine jr_if_eq rfl (fun _ => ?_) (fun z => absurd (by decide) z)
                        refine jr_ic rfl ?_
                        refine jr_iret rfl rfl (Nat.zero_le _) (Nat.zero_le _) ?_
                        first
                          | exact ⟨rfl, hRel0⟩
                          | (exfalso; omega)
                          | (exfalso; simp (disch := omega) only [Int32.lt_iff_toInt_lt, Int32.le_iff_toInt_le, ← Int32.toInt_inj, Int32.reduceToInt, nI_toInt] at c1RephasMonth c5RephasMonth c1Ledwrite m2MDisIn m5MDisIn m2MDisIn_2 m5MDisIn_2 m2MDisIn_3; done)
                          | (exfalso; simp (disch := omega) only [Int32.lt_iff_toInt_lt, Int32.le_iff_toInt_le, ← Int32.toInt_inj, Int32.reduceToInt, nI_toInt] at c1RephasMonth c5RephasMonth c1Ledwrite m2MDisIn m5MDisIn m2MDisIn_2 m5MDisIn_2 m2MDisIn_3; omega)
                      · refine jr_iload rfl rfl ?_
                        refine jr_iload rfl rfl ?_
                        refine jr_icmp_gt rfl (fun m5MDisIn_3 => ?_) (fun m5MDisIn_3 => ?_)
                        · refine jr_ic rfl ?_
                          refine jr_zret rfl rfl rfl (Nat.zero_le _) (Nat.zero_le _) ?_
                          refine jr_if_eq rfl (fun _ => ?_) (fun z => absurd (by decide) z)
                          refine jr_ic rfl ?_
                          refine jr_iret rfl rfl (Nat.zero_le _) (Nat.zero_le _) ?_
                          first
                            | exact ⟨rfl, hRel0⟩
                            | (exfalso; omega)
                            | (exfalso; simp (disch := omega) only [Int32.lt_iff_toInt_lt, Int32.le_iff_toInt_le, ← Int32.toInt_inj, Int32.reduceToInt, nI_toInt] at c1RephasMonth c5RephasMonth c1Ledwrite m2MDisIn m5MDisIn m2MDisIn_2 m5MDisIn_2 m2MDisIn_3 m5MDisIn_3; done)
                            | (exfalso; simp (disch := omega) only [Int32.lt_iff_toInt_lt, Int32.le_iff_toInt_le, ← Int32.toInt_inj, Int32.reduceToInt, nI_toInt] at c1RephasMonth c5RephasMonth c1Ledwrite m2MDisIn m5MDisIn m2MDisIn_2 m5MDisIn_2 m2MDisIn_3 m5MDisIn_3; omega)
                        · refine jr_ic rfl ?_
                          refine jr_goto rfl ?_
                          refine jr_zret rfl rfl rfl (Nat.zero_le _) (Nat.zero_le _) ?_
                          refine jr_if_eq rfl (fun z => absurd z (by decide)) (fun _ => ?_)
                          refine jr_aload rfl rfl ?_
                          refine jr_getI rfl rfl ?_
                          refine jr_ic rfl ?_
                          refine jr_icmp_ne rfl (fun m24 => ?_) (fun m24 => ?_)
                          · first
                              | (exfalso; omega)
                              | (exfalso; simp (disch := omega) only [Int32.lt_iff_toInt_lt, Int32.le_iff_toInt_le, ← Int32.toInt_inj, Int32.reduceToInt, nI_toInt] at c1RephasMonth c5RephasMonth c1Ledwrite m2MDisIn m5MDisIn m2MDisIn_2 m5MDisIn_2 m2MDisIn_3 m5MDisIn_3 m24; done)
                              | (exfalso; simp (disch := omega) only [Int32.lt_iff_toInt_lt, Int32.le_iff_toInt_le, ← Int32.toInt_inj, Int32.reduceToInt, nI_toInt] at c1RephasMonth c5RephasMonth c1Ledwrite m2MDisIn m5MDisIn m2MDisIn_2 m5MDisIn_2 m2MDisIn_3 m5MDisIn_3 m24; omega)
                          · refine jr_ic rfl ?_
                            refine jr_iret rfl rfl (Nat.zero_le _) (Nat.zero_le _) ?_
                            first
                              | exact ⟨rfl, hRel0⟩
                              | (exfalso; omega)
                              | (exfalso; simp (disch := omega) only [Int32.lt_iff_toInt_lt, Int32.le_iff_toInt_le, ← Int32.toInt_inj, Int32.reduceToInt, nI_toInt] at c1RephasMonth c5RephasMonth c1Ledwrite m2MDisIn m5MDisIn m2MDisIn_2 m5MDisIn_2 m2MDisIn_3 m5MDisIn_3 m24; done)
                              | (exfalso; simp (disch := omega) only [Int32.lt_iff_toInt_lt, Int32.le_iff_toInt_le, ← Int32.toInt_inj, Int32.reduceToInt, nI_toInt] at c1RephasMonth c5RephasMonth c1Ledwrite m2MDisIn m5MDisIn m2MDisIn_2 m5MDisIn_2 m2MDisIn_3 m5MDisIn_3 m24; omega)
            · refine jr_iload rfl rfl ?_
              refine jr_ic rfl ?_
              refine jr_icmp_gt rfl (fun c4Ledwrite => ?_) (fun c4Ledwrite => ?_)
              · refine jr_ic rfl ?_
                refine jr_iret rfl rfl (Nat.zero_le _) (Nat.zero_le _) ?_
                refine jr_iret rfl rfl (Nat.zero_le _) (Nat.zero_le _) ?_
                show jx_W (jm_MD_ledger, d + 40, 0, 0, false, 1, _) _ 0 0 0 [some _, some _, some _, some _] [] _
                refine jr_iload rfl rfl ?_
                refine jr_ic rfl ?_
                refine jr_ic rfl ?_
                refine jr_cs3 (mc' := 0) (ms' := 0) rfl jm_MD_isIn_n jm_MD_isIn_f rfl rfl rfl rfl rfl (Nat.zero_le _) (Nat.zero_le _) ?_
                show jx_W (jm_MD_isIn, _, _, _, _, _, _) _ 0 0 0 [some _, some _, some _] [] _
                refine jr_iload rfl rfl ?_
                refine jr_iload rfl rfl ?_
                refine jr_icmp_lt rfl (fun m2MDisIn => ?_) (fun m2MDisIn => ?_)
                · refine jr_ic rfl ?_
                  refine jr_zret rfl rfl rfl (Nat.zero_le _) (Nat.zero_le _) ?_
                  refine jr_if_eq rfl (fun _ => ?_) (fun z => absurd (by decide) z)
                  refine jr_ic rfl ?_
                  refine jr_iret rfl rfl (Nat.zero_le _) (Nat.zero_le _) ?_
                  first
                    | exact ⟨rfl, hRel0⟩
                    | (exfalso; omega)
                    | (exfalso; simp (disch := omega) only [Int32.lt_iff_toInt_lt, Int32.le_iff_toInt_le, ← Int32.toInt_inj, Int32.reduceToInt, nI_toInt] at c1RephasMonth c5RephasMonth c1Ledwrite c4Ledwrite m2MDisIn; done)
                    | (exfalso; simp (disch := omega) only [Int32.lt_iff_toInt_lt, Int32.le_iff_toInt_le, ← Int32.toInt_inj, Int32.reduceToInt, nI_toInt] at c1RephasMonth c5RephasMonth c1Ledwrite c4Ledwrite m2MDisIn; omega)
                · refine jr_iload rfl rfl ?_
                  refine jr_iload rfl rfl ?_
                  refine jr_icmp_gt rfl (fun m5MDisIn => ?_) (fun m5MDisIn => ?_)
                  · refine jr_ic rfl ?_
                    refine jr_zret rfl rfl rfl (Nat.zero_le _) (Nat.zero_le _) ?_
                    refine jr_if_eq rfl (fun _ => ?_) (fun z => absurd (by decide) z)
                    refine jr_ic rfl ?_
                    refine jr_iret rfl rfl (Nat.zero_le _) (Nat.zero_le _) ?_
                    first
                      | exact ⟨rfl, hRel0⟩
                      | (exfalso; omega)
                      | (exfalso; simp (disch := omega) only [Int32.lt_iff_toInt_lt, Int32.le_iff_toInt_le, ← Int32.toInt_inj, Int32.reduceToInt, nI_toInt] at c1RephasMonth c5RephasMonth c1Ledwrite c4Ledwrite m2MDisIn m5MDisIn; done)
                      | (exfalso; simp (disch := omega) only [Int32.lt_iff_toInt_lt, Int32.le_iff_toInt_le, ← Int32.toInt_inj, Int32.reduceToInt, nI_toInt] at c1RephasMonth c5RephasMonth c1Ledwrite c4Ledwrite m2MDisIn m5MDisIn; omega)
                  · refine jr_ic rfl ?_
                    refine jr_goto rfl ?_
                    refine jr_zret rfl rfl rfl (Nat.zero_le _) (Nat.zero_le _) ?_
                    refine jr_if_eq rfl (fun z => absurd z (by decide)) (fun _ => ?_)
                    refine jr_iload rfl rfl ?_
                    refine jr_ic rfl ?_
                    refine jr_aload rfl rfl ?_
                    refine jr_getR rfl rfl rfl rfl (Or.inl rfl) ?_
                    refine jr_aload rfl rfl ?_
                    refine jr_getI rfl rfl ?_
                    refine jr_iald (len := 2) rfl rfl hw.1 (by omega) ?_
                    refine jr_ic rfl ?_
                    refine jr_isub rfl ?_
                    refine jr_cs3 (mc' := 0) (ms' := 0) rfl jm_MD_isIn_n jm_MD_isIn_f rfl rfl rfl rfl rfl (Nat.zero_le _) (Nat.zero_le _) ?_
                    show jx_W (jm_MD_isIn, _, _, _, _, _, _) _ 0 0 0 [some _, some _, some _] [] _
                    refine jr_iload rfl rfl ?_
                    refine jr_iload rfl rfl ?_
                    refine jr_icmp_lt rfl (fun m2MDisIn_2 => ?_) (fun m2MDisIn_2 => ?_)
                    · refine jr_ic rfl ?_
                      refine jr_zret rfl rfl rfl (Nat.zero_le _) (Nat.zero_le _) ?_
                      refine jr_if_eq rfl (fun _ => ?_) (fun z => absurd (by decide) z)
                      refine jr_ic rfl ?_
                      refine jr_iret rfl rfl (Nat.zero_le _) (Nat.zero_le _) ?_
                      first
                        | exact ⟨rfl, hRel0⟩
                        | (exfalso; omega)
                        | (exfalso; simp (disch := omega) only [Int32.lt_iff_toInt_lt, Int32.le_iff_toInt_le, ← Int32.toInt_inj, Int32.reduceToInt, nI_toInt] at c1RephasMonth c5RephasMonth c1Ledwrite c4Ledwrite m2MDisIn m5MDisIn m2MDisIn_2; done)
                        | (exfalso; simp (disch := omega) only [Int32.lt_iff_toInt_lt, Int32.le_iff_toInt_le, ← Int32.toInt_inj, Int32.reduceToInt, nI_toInt] at c1RephasMonth c5RephasMonth c1Ledwrite c4Ledwrite m2MDisIn m5MDisIn m2MDisIn_2; omega)
                    · refine jr_iload rfl rfl ?_
                      refine jr_iload rfl rfl ?_
                      refine jr_icmp_gt rfl (fun m5MDisIn_2 => ?_) (fun m5MDisIn_2 => ?_)
                      · refine jr_ic rfl ?_
                        refine jr_zret rfl rfl rfl (Nat.zero_le _) (Nat.zero_le _) ?_
                        refine jr_if_eq rfl (fun _ => ?_) (fun z => absurd (by decide) z)
                        refine jr_ic rfl ?_
                        refine jr_iret rfl rfl (Nat.zero_le _) (Nat.zero_le _) ?_
                        first
                          | exact ⟨rfl, hRel0⟩
                          | (exfalso; omega)
                          | (exfalso; simp (disch := omega) only [Int32.lt_iff_toInt_lt, Int32.le_iff_toInt_le, ← Int32.toInt_inj, Int32.reduceToInt, nI_toInt] at c1RephasMonth c5RephasMonth c1Ledwrite c4Ledwrite m2MDisIn m5MDisIn m2MDisIn_2 m5MDisIn_2; done)
                          | (exfalso; simp (disch := omega) only [Int32.lt_iff_toInt_lt, Int32.le_iff_toInt_le, ← Int32.toInt_inj, Int32.reduceToInt, nI_toInt] at c1RephasMonth c5RephasMonth c1Ledwrite c4Ledwrite m2MDisIn m5MDisIn m2MDisIn_2 m5MDisIn_2; omega)
                      · refine jr_ic rfl ?_
                        refine jr_goto rfl ?_
                        refine jr_zret rfl rfl rfl (Nat.zero_le _) (Nat.zero_le _) ?_
                        refine jr_if_eq rfl (fun z => absurd z (by decide)) (fun _ => ?_)
                        refine jr_iload rfl rfl ?_
                        refine jr_ic rfl ?_
                        refine jr_ic rfl ?_
                        refine jr_cs3 (mc' := 0) (ms' := 0) rfl jm_MD_isIn_n jm_MD_isIn_f rfl rfl rfl rfl rfl (Nat.zero_le _) (Nat.zero_le _) ?_
                        show jx_W (jm_MD_isIn, _, _, _, _, _, _) _ 0 0 0 [some _, some _, some _] [] _
                        refine jr_iload rfl rfl ?_
                        refine jr_iload rfl rfl ?_
                        refine jr_icmp_lt rfl (fun m2MDisIn_3 => ?_) (fun m2MDisIn_3 => ?_)
                        · refine jr_ic rfl ?_
                          refine jr_zret rfl rfl rfl (Nat.zero_le _) (Nat.zero_le _) ?_
                          refine jr_if_eq rfl (fun _ => ?_) (fun z => absurd (by decide) z)
                          refine jr_ic rfl ?_
                          refine jr_iret rfl rfl (Nat.zero_le _) (Nat.zero_le _) ?_
                          first
                            | exact ⟨rfl, hRel0⟩
                            | (exfalso; omega)
                            | (exfalso; simp (disch := omega) only [Int32.lt_iff_toInt_lt, Int32.le_iff_toInt_le, ← Int32.toInt_inj, Int32.reduceToInt, nI_toInt] at c1RephasMonth c5RephasMonth c1Ledwrite c4Ledwrite m2MDisIn m5MDisIn m2MDisIn_2 m5MDisIn_2 m2MDisIn_3; done)
                            | (exfalso; simp (disch := omega) only [Int32.lt_iff_toInt_lt, Int32.le_iff_toInt_le, ← Int32.toInt_inj, Int32.reduceToInt, nI_toInt] at c1RephasMonth c5RephasMonth c1Ledwrite c4Ledwrite m2MDisIn m5MDisIn m2MDisIn_2 m5MDisIn_2 m2MDisIn_3; omega)
                        · refine jr_iload rfl rfl ?_
                          refine jr_iload rfl rfl ?_
                          refine jr_icmp_gt rfl (fun m5MDisIn_3 => ?_) (fun m5MDisIn_3 => ?_)
                          · refine jr_ic rfl ?_
                            refine jr_zret rfl rfl rfl (Nat.zero_le _) (Nat.zero_le _) ?_
                            refine jr_if_eq rfl (fun _ => ?_) (fun z => absurd (by decide) z)
                            refine jr_ic rfl ?_
                            refine jr_iret rfl rfl (Nat.zero_le _) (Nat.zero_le _) ?_
                            first
                              | exact ⟨rfl, hRel0⟩
                              | (exfalso; omega)
                              | (exfalso; simp (disch := omega) only [Int32.lt_iff_toInt_lt, Int32.le_iff_toInt_le, ← Int32.toInt_inj, Int32.reduceToInt, nI_toInt] at c1RephasMonth c5RephasMonth c1Ledwrite c4Ledwrite m2MDisIn m5MDisIn m2MDisIn_2 m5MDisIn_2 m2MDisIn_3 m5MDisIn_3; done)
                              | (exfalso; simp (disch := omega) only [Int32.lt_iff_toInt_lt, Int32.le_iff_toInt_le, ← Int32.toInt_inj, Int32.reduceToInt, nI_toInt] at c1RephasMonth c5RephasMonth c1Ledwrite c4Ledwrite m2MDisIn m5MDisIn m2MDisIn_2 m5MDisIn_2 m2MDisIn_3 m5MDisIn_3; omega)
                          · refine jr_ic rfl ?_
                            refine jr_goto rfl ?_
                            refine jr_zret rfl rfl rfl (Nat.zero_le _) (Nat.zero_le _) ?_
                            refine jr_if_eq rfl (fun z => absurd z (by decide)) (fun _ => ?_)
                            refine jr_aload rfl rfl ?_
                            refine jr_getI rfl rfl ?_
                            refine jr_ic rfl ?_
                            refine jr_icmp_ne rfl (fun m24 => ?_) (fun m24 => ?_)
                            · first
                                | (exfalso; omega)
                                | (exfalso; simp (disch := omega) only [Int32.lt_iff_toInt_lt, Int32.le_iff_toInt_le, ← Int32.toInt_inj, Int32.reduceToInt, nI_toInt] at c1RephasMonth c5RephasMonth c1Ledwrite c4Ledwrite m2MDisIn m5MDisIn m2MDisIn_2 m5MDisIn_2 m2MDisIn_3 m5MDisIn_3 m24; done)
                                | (exfalso; simp (disch := omega) only [Int32.lt_iff_toInt_lt, Int32.le_iff_toInt_le, ← Int32.toInt_inj, Int32.reduceToInt, nI_toInt] at c1RephasMonth c5RephasMonth c1Ledwrite c4Ledwrite m2MDisIn m5MDisIn m2MDisIn_2 m5MDisIn_2 m2MDisIn_3 m5MDisIn_3 m24; omega)
                            · refine jr_ic rfl ?_
                              refine jr_iret rfl rfl (Nat.zero_le _) (Nat.zero_le _) ?_
                              first
                                | exact ⟨rfl, hRel0⟩
                                | (exfalso; omega)
                                | (exfalso; simp (disch := omega) only [Int32.lt_iff_toInt_lt, Int32.le_iff_toInt_le, ← Int32.toInt_inj, Int32.reduceToInt, nI_toInt] at c1RephasMonth c5RephasMonth c1Ledwrite c4Ledwrite m2MDisIn m5MDisIn m2MDisIn_2 m5MDisIn_2 m2MDisIn_3 m5MDisIn_3 m24; done)
                                | (exfalso; simp (disch := omega) only [Int32.lt_iff_toInt_lt, Int32.le_iff_toInt_le, ← Int32.toInt_inj, Int32.reduceToInt, nI_toInt] at c1RephasMonth c5RephasMonth c1Ledwrite c4Ledwrite m2MDisIn m5MDisIn m2MDisIn_2 m5MDisIn_2 m2MDisIn_3 m5MDisIn_3 m24; omega)
              · refine jr_iload rfl rfl ?_
                refine jr_ic rfl ?_
                refine jr_icmp_lt rfl (fun c7Ledwrite => ?_) (fun c7Ledwrite => ?_)
                · refine jr_ic rfl ?_
                  refine jr_iret rfl rfl (Nat.zero_le _) (Nat.zero_le _) ?_
                  refine jr_iret rfl rfl (Nat.zero_le _) (Nat.zero_le _) ?_
                  show jx_W (jm_MD_ledger, d + 40, 0, 0, false, 1, _) _ 0 0 0 [some _, some _, some _, some _] [] _
                  refine jr_iload rfl rfl ?_
                  refine jr_ic rfl ?_
                  refine jr_ic rfl ?_
                  refine jr_cs3 (mc' := 0) (ms' := 0) rfl jm_MD_isIn_n jm_MD_isIn_f rfl rfl rfl rfl rfl (Nat.zero_le _) (Nat.zero_le _) ?_
                  show jx_W (jm_MD_isIn, _, _, _, _, _, _) _ 0 0 0 [some _, some _, some _] [] _
                  refine jr_iload rfl rfl ?_
                  refine jr_iload rfl rfl ?_
                  refine jr_icmp_lt rfl (fun m2MDisIn => ?_) (fun m2MDisIn => ?_)
                  · refine jr_ic rfl ?_
                    refine jr_zret rfl rfl rfl (Nat.zero_le _) (Nat.zero_le _) ?_
                    refine jr_if_eq rfl (fun _ => ?_) (fun z => absurd (by decide) z)
                    refine jr_ic rfl ?_
                    refine jr_iret rfl rfl (Nat.zero_le _) (Nat.zero_le _) ?_
                    first
                      | exact ⟨rfl, hRel0⟩
                      | (exfalso; omega)
                      | (exfalso; simp (disch := omega) only [Int32.lt_iff_toInt_lt, Int32.le_iff_toInt_le, ← Int32.toInt_inj, Int32.reduceToInt, nI_toInt] at c1RephasMonth c5RephasMonth c1Ledwrite c4Ledwrite c7Ledwrite m2MDisIn; done)
                      | (exfalso; simp (disch := omega) only [Int32.lt_iff_toInt_lt, Int32.le_iff_toInt_le, ← Int32.toInt_inj, Int32.reduceToInt, nI_toInt] at c1RephasMonth c5RephasMonth c1Ledwrite c4Ledwrite c7Ledwrite m2MDisIn; omega)
                  · refine jr_iload rfl rfl ?_
                    refine jr_iload rfl rfl ?_
                    refine jr_icmp_gt rfl (fun m5MDisIn => ?_) (fun m5MDisIn => ?_)
                    · refine jr_ic rfl ?_
                      refine jr_zret rfl rfl rfl (Nat.zero_le _) (Nat.zero_le _) ?_
                      refine jr_if_eq rfl (fun _ => ?_) (fun z => absurd (by decide) z)
                      refine jr_ic rfl ?_
                      refine jr_iret rfl rfl (Nat.zero_le _) (Nat.zero_le _) ?_
                      first
                        | exact ⟨rfl, hRel0⟩
                        | (exfalso; omega)
                        | (exfalso; simp (disch := omega) only [Int32.lt_iff_toInt_lt, Int32.le_iff_toInt_le, ← Int32.toInt_inj, Int32.reduceToInt, nI_toInt] at c1RephasMonth c5RephasMonth c1Ledwrite c4Ledwrite c7Ledwrite m2MDisIn m5MDisIn; done)
                        | (exfalso; simp (disch := omega) only [Int32.lt_iff_toInt_lt, Int32.le_iff_toInt_le, ← Int32.toInt_inj, Int32.reduceToInt, nI_toInt] at c1RephasMonth c5RephasMonth c1Ledwrite c4Ledwrite c7Ledwrite m2MDisIn m5MDisIn; omega)
                    · refine jr_ic rfl ?_
                      refine jr_goto rfl ?_
                      refine jr_zret rfl rfl rfl (Nat.zero_le _) (Nat.zero_le _) ?_
                      refine jr_if_eq rfl (fun z => absurd z (by decide)) (fun _ => ?_)
                      refine jr_iload rfl rfl ?_
                      refine jr_ic rfl ?_
                      refine jr_aload rfl rfl ?_
                      refine jr_getR rfl rfl rfl rfl (Or.inl rfl) ?_
                      refine jr_aload rfl rfl ?_
                      refine jr_getI rfl rfl ?_
                      refine jr_iald (len := 2) rfl rfl hw.1 (by omega) ?_
                      refine jr_ic rfl ?_
                      refine jr_isub rfl ?_
                      refine jr_cs3 (mc' := 0) (ms' := 0) rfl jm_MD_isIn_n jm_MD_isIn_f rfl rfl rfl rfl rfl (Nat.zero_le _) (Nat.zero_le _) ?_
                      show jx_W (jm_MD_isIn, _, _, _, _, _, _) _ 0 0 0 [some _, some _, some _] [] _
                      refine jr_iload rfl rfl ?_
                      refine jr_iload rfl rfl ?_
                      refine jr_icmp_lt rfl (fun m2MDisIn_2 => ?_) (fun m2MDisIn_2 => ?_)
                      · refine jr_ic rfl ?_
                        refine jr_zret rfl rfl rfl (Nat.zero_le _) (Nat.zero_le _) ?_
                        refine jr_if_eq rfl (fun _ => ?_) (fun z => absurd (by decide) z)
                        refine jr_ic rfl ?_
                        refine jr_iret rfl rfl (Nat.zero_le _) (Nat.zero_le _) ?_
                        first
                          | exact ⟨rfl, hRel0⟩
                          | (exfalso; omega)
                          | (exfalso; simp (disch := omega) only [Int32.lt_iff_toInt_lt, Int32.le_iff_toInt_le, ← Int32.toInt_inj, Int32.reduceToInt, nI_toInt] at c1RephasMonth c5RephasMonth c1Ledwrite c4Ledwrite c7Ledwrite m2MDisIn m5MDisIn m2MDisIn_2; done)
                          | (exfalso; simp (disch := omega) only [Int32.lt_iff_toInt_lt, Int32.le_iff_toInt_le, ← Int32.toInt_inj, Int32.reduceToInt, nI_toInt] at c1RephasMonth c5RephasMonth c1Ledwrite c4Ledwrite c7Ledwrite m2MDisIn m5MDisIn m2MDisIn_2; omega)
                      · refine jr_iload rfl rfl ?_
                        refine jr_iload rfl rfl ?_
                        refine jr_icmp_gt rfl (fun m5MDisIn_2 => ?_) (fun m5MDisIn_2 => ?_)
                        · refine jr_ic rfl ?_
                          refine jr_zret rfl rfl rfl (Nat.zero_le _) (Nat.zero_le _) ?_
                          refine jr_if_eq rfl (fun _ => ?_) (fun z => absurd (by decide) z)
                          refine jr_ic rfl ?_
                          refine jr_iret rfl rfl (Nat.zero_le _) (Nat.zero_le _) ?_
                          first
                            | exact ⟨rfl, hRel0⟩
                            | (exfalso; omega)
                            | (exfalso; simp (disch := omega) only [Int32.lt_iff_toInt_lt, Int32.le_iff_toInt_le, ← Int32.toInt_inj, Int32.reduceToInt, nI_toInt] at c1RephasMonth c5RephasMonth c1Ledwrite c4Ledwrite c7Ledwrite m2MDisIn m5MDisIn m2MDisIn_2 m5MDisIn_2; done)
                            | (exfalso; simp (disch := omega) only [Int32.lt_iff_toInt_lt, Int32.le_iff_toInt_le, ← Int32.toInt_inj, Int32.reduceToInt, nI_toInt] at c1RephasMonth c5RephasMonth c1Ledwrite c4Ledwrite c7Ledwrite m2MDisIn m5MDisIn m2MDisIn_2 m5MDisIn_2; omega)
                        · refine jr_ic rfl ?_
                          refine jr_goto rfl ?_
                          refine jr_zret rfl rfl rfl (Nat.zero_le _) (Nat.zero_le _) ?_
                          refine jr_if_eq rfl (fun z => absurd z (by decide)) (fun _ => ?_)
                          refine jr_iload rfl rfl ?_
                          refine jr_ic rfl ?_
                          refine jr_ic rfl ?_
                          refine jr_cs3 (mc' := 0) (ms' := 0) rfl jm_MD_isIn_n jm_MD_isIn_f rfl rfl rfl rfl rfl (Nat.zero_le _) (Nat.zero_le _) ?_
                          show jx_W (jm_MD_isIn, _, _, _, _, _, _) _ 0 0 0 [some _, some _, some _] [] _
                          refine jr_iload rfl rfl ?_
                          refine jr_iload rfl rfl ?_
                          refine jr_icmp_lt rfl (fun m2MDisIn_3 => ?_) (fun m2MDisIn_3 => ?_)
                          · refine jr_ic rfl ?_
                            refine jr_zret rfl rfl rfl (Nat.zero_le _) (Nat.zero_le _) ?_
                            refine jr_if_eq rfl (fun _ => ?_) (fun z => absurd (by decide) z)
                            refine jr_ic rfl ?_
                            refine jr_iret rfl rfl (Nat.zero_le _) (Nat.zero_le _) ?_
                            first
                              | exact ⟨rfl, hRel0⟩
                              | (exfalso; omega)
                              | (exfalso; simp (disch := omega) only [Int32.lt_iff_toInt_lt, Int32.le_iff_toInt_le, ← Int32.toInt_inj, Int32.reduceToInt, nI_toInt] at c1RephasMonth c5RephasMonth c1Ledwrite c4Ledwrite c7Ledwrite m2MDisIn m5MDisIn m2MDisIn_2 m5MDisIn_2 m2MDisIn_3; done)
                              | (exfalso; simp (disch := omega) only [Int32.lt_iff_toInt_lt, Int32.le_iff_toInt_le, ← Int32.toInt_inj, Int32.reduceToInt, nI_toInt] at c1RephasMonth c5RephasMonth c1Ledwrite c4Ledwrite c7Ledwrite m2MDisIn m5MDisIn m2MDisIn_2 m5MDisIn_2 m2MDisIn_3; omega)
                          · refine jr_iload rfl rfl ?_
                            refine jr_iload rfl rfl ?_
                            refine jr_icmp_gt rfl (fun m5MDisIn_3 => ?_) (fun m5MDisIn_3 => ?_)
                            · refine jr_ic rfl ?_
                              refine jr_zret rfl rfl rfl (Nat.zero_le _) (Nat.zero_le _) ?_
                              refine jr_if_eq rfl (fun _ => ?_) (fun z => absurd (by decide) z)
                              refine jr_ic rfl ?_
                              refine jr_iret rfl rfl (Nat.zero_le _) (Nat.zero_le _) ?_
                              first
                                | exact ⟨rfl, hRel0⟩
                                | (exfalso; omega)
                                | (exfalso; simp (disch := omega) only [Int32.lt_iff_toInt_lt, Int32.le_iff_toInt_le, ← Int32.toInt_inj, Int32.reduceToInt, nI_toInt] at c1RephasMonth c5RephasMonth c1Ledwrite c4Ledwrite c7Ledwrite m2MDisIn m5MDisIn m2MDisIn_2 m5MDisIn_2 m2MDisIn_3 m5MDisIn_3; done)
                                | (exfalso; simp (disch := omega) only [Int32.lt_iff_toInt_lt, Int32.le_iff_toInt_le, ← Int32.toInt_inj, Int32.reduceToInt, nI_toInt] at c1RephasMonth c5RephasMonth c1Ledwrite c4Ledwrite c7Ledwrite m2MDisIn m5MDisIn m2MDisIn_2 m5MDisIn_2 m2MDisIn_3 m5MDisIn_3; omega)
                            · refine jr_ic rfl ?_
                              refine jr_goto rfl ?_
                              refine jr_zret rfl rfl rfl (Nat.zero_le _) (Nat.zero_le _) ?_
                              refine jr_if_eq rfl (fun z => absurd z (by decide)) (fun _ => ?_)
                              refine jr_aload rfl rfl ?_
                              refine jr_getI rfl rfl ?_
                              refine jr_ic rfl ?_
                              refine jr_icmp_ne rfl (fun m24 => ?_) (fun m24 => ?_)
                              · first
                                  | (exfalso; omega)
                                  | (exfalso; simp (disch := omega) only [Int32.lt_iff_toInt_lt, Int32.le_iff_toInt_le, ← Int32.toInt_inj, Int32.reduceToInt, nI_toInt] at c1RephasMonth c5RephasMonth c1Ledwrite c4Ledwrite c7Ledwrite m2MDisIn m5MDisIn m2MDisIn_2 m5MDisIn_2 m2MDisIn_3 m5MDisIn_3 m24; done)
                                  | (exfalso; simp (disch := omega) only [Int32.lt_iff_toInt_lt, Int32.le_iff_toInt_le, ← Int32.toInt_inj, Int32.reduceToInt, nI_toInt] at c1RephasMonth c5RephasMonth c1Ledwrite c4Ledwrite c7Ledwrite m2MDisIn m5MDisIn m2MDisIn_2 m5MDisIn_2 m2MDisIn_3 m5MDisIn_3 m24; omega)
                              · refine jr_ic rfl ?_
                                refine jr_iret rfl rfl (Nat.zero_le _) (Nat.zero_le _) ?_
                                first
                                  | exact ⟨rfl, hRel0⟩
                                  | (exfalso; omega)
                                  | (exfalso; simp (disch := omega) only [Int32.lt_iff_toInt_lt, Int32.le_iff_toInt_le, ← Int32.toInt_inj, Int32.reduceToInt, nI_toInt] at c1RephasMonth c5RephasMonth c1Ledwrite c4Ledwrite c7Ledwrite m2MDisIn m5MDisIn m2MDisIn_2 m5MDisIn_2 m2MDisIn_3 m5MDisIn_3 m24; done)
                                  | (exfalso; simp (disch := omega) only [Int32.lt_iff_toInt_lt, Int32.le_iff_toInt_le, ← Int32.toInt_inj, Int32.reduceToInt, nI_toInt] at c1RephasMonth c5RephasMonth c1Ledwrite c4Ledwrite c7Ledwrite m2MDisIn m5MDisIn m2MDisIn_2 m5MDisIn_2 m2MDisIn_3 m5MDisIn_3 m24; omega)
                · refine jr_iload rfl rfl ?_
                  refine jr_ic rfl ?_
                  refine jr_icmp_gt rfl (fun c10Ledwrite => ?_) (fun c10Ledwrite => ?_)
                  · refine jr_ic rfl ?_
                    refine jr_iret rfl rfl (Nat.zero_le _) (Nat.zero_le _) ?_
                    refine jr_iret rfl rfl (Nat.zero_le _) (Nat.zero_le _) ?_
                    show jx_W (jm_MD_ledger, d + 40, 0, 0, false, 1, _) _ 0 0 0 [some _, some _, some _, some _] [] _
                    refine jr_iload rfl rfl ?_
                    refine jr_ic rfl ?_
                    refine jr_ic rfl ?_
                    refine jr_cs3 (mc' := 0) (ms' := 0) rfl jm_MD_isIn_n jm_MD_isIn_f rfl rfl rfl rfl rfl (Nat.zero_le _) (Nat.zero_le _) ?_
                    show jx_W (jm_MD_isIn, _, _, _, _, _, _) _ 0 0 0 [some _, some _, some _] [] _
                    refine jr_iload rfl rfl ?_
                    refine jr_iload rfl rfl ?_
                    refine jr_icmp_lt rfl (fun m2MDisIn => ?_) (fun m2MDisIn => ?_)
                    · refine jr_ic rfl ?_
                      refine jr_zret rfl rfl rfl (Nat.zero_le _) (Nat.zero_le _) ?_
                      refine jr_if_eq rfl (fun _ => ?_) (fun z => absurd (by decide) z)
                      refine jr_ic rfl ?_
                      refine jr_iret rfl rfl (Nat.zero_le _) (Nat.zero_le _) ?_
                      first
                        | exact ⟨rfl, hRel0⟩
                        | (exfalso; omega)
                        | (exfalso; simp (disch := omega) only [Int32.lt_iff_toInt_lt, Int32.le_iff_toInt_le, ← Int32.toInt_inj, Int32.reduceToInt, nI_toInt] at c1RephasMonth c5RephasMonth c1Ledwrite c4Ledwrite c7Ledwrite c10Ledwrite m2MDisIn; done)
                        | (exfalso; simp (disch := omega) only [Int32.lt_iff_toInt_lt, Int32.le_iff_toInt_le, ← Int32.toInt_inj, Int32.reduceToInt, nI_toInt] at c1RephasMonth c5RephasMonth c1Ledwrite c4Ledwrite c7Ledwrite c10Ledwrite m2MDisIn; omega)
                    · refine jr_iload rfl rfl ?_
                      refine jr_iload rfl rfl ?_
                      refine jr_icmp_gt rfl (fun m5MDisIn => ?_) (fun m5MDisIn => ?_)
                      · refine jr_ic rfl ?_
                        refine jr_zret rfl rfl rfl (Nat.zero_le _) (Nat.zero_le _) ?_
                        refine jr_if_eq rfl (fun _ => ?_) (fun z => absurd (by decide) z)
                        refine jr_ic rfl ?_
                        refine jr_iret rfl rfl (Nat.zero_le _) (Nat.zero_le _) ?_
                        first
                          | exact ⟨rfl, hRel0⟩
                          | (exfalso; omega)
                          | (exfalso; simp (disch := omega) only [Int32.lt_iff_toInt_lt, Int32.le_iff_toInt_le, ← Int32.toInt_inj, Int32.reduceToInt, nI_toInt] at c1RephasMonth c5RephasMonth c1Ledwrite c4Ledwrite c7Ledwrite c10Ledwrite m2MDisIn m5MDisIn; done)
                          | (exfalso; simp (disch := omega) only [Int32.lt_iff_toInt_lt, Int32.le_iff_toInt_le, ← Int32.toInt_inj, Int32.reduceToInt, nI_toInt] at c1RephasMonth c5RephasMonth c1Ledwrite c4Ledwrite c7Ledwrite c10Ledwrite m2MDisIn m5MDisIn; omega)
                      · refine jr_ic rfl ?_
                        refine jr_goto rfl ?_
                        refine jr_zret rfl rfl rfl (Nat.zero_le _) (Nat.zero_le _) ?_
                        refine jr_if_eq rfl (fun z => absurd z (by decide)) (fun _ => ?_)
                        refine jr_iload rfl rfl ?_
                        refine jr_ic rfl ?_
                        refine jr_aload rfl rfl ?_
                        refine jr_getR rfl rfl rfl rfl (Or.inl rfl) ?_
                        refine jr_aload rfl rfl ?_
                        refine jr_getI rfl rfl ?_
                        refine jr_iald (len := 2) rfl rfl hw.1 (by omega) ?_
                        refine jr_ic rfl ?_
                        refine jr_isub rfl ?_
                        refine jr_cs3 (mc' := 0) (ms' := 0) rfl jm_MD_isIn_n jm_MD_isIn_f rfl rfl rfl rfl rfl (Nat.zero_le _) (Nat.zero_le _) ?_
                        show jx_W (jm_MD_isIn, _, _, _, _, _, _) _ 0 0 0 [some _, some _, some _] [] _
                        refine jr_iload rfl rfl ?_
                        refine jr_iload rfl rfl ?_
                        refine jr_icmp_lt rfl (fun m2MDisIn_2 => ?_) (fun m2MDisIn_2 => ?_)
                        · refine jr_ic rfl ?_
                          refine jr_zret rfl rfl rfl (Nat.zero_le _) (Nat.zero_le _) ?_
                          refine jr_if_eq rfl (fun _ => ?_) (fun z => absurd (by decide) z)
                          refine jr_ic rfl ?_
                          refine jr_iret rfl rfl (Nat.zero_le _) (Nat.zero_le _) ?_
                          first
                            | exact ⟨rfl, hRel0⟩
                            | (exfalso; omega)
                            | (exfalso; simp (disch := omega) only [Int32.lt_iff_toInt_lt, Int32.le_iff_toInt_le, ← Int32.toInt_inj, Int32.reduceToInt, nI_toInt] at c1RephasMonth c5RephasMonth c1Ledwrite c4Ledwrite c7Ledwrite c10Ledwrite m2MDisIn m5MDisIn m2MDisIn_2; done)
                            | (exfalso; simp (disch := omega) only [Int32.lt_iff_toInt_lt, Int32.le_iff_toInt_le, ← Int32.toInt_inj, Int32.reduceToInt, nI_toInt] at c1RephasMonth c5RephasMonth c1Ledwrite c4Ledwrite c7Ledwrite c10Ledwrite m2MDisIn m5MDisIn m2MDisIn_2; omega)
                        · refine jr_iload rfl rfl ?_
                          refine jr_iload rfl rfl ?_
                          refine jr_icmp_gt rfl (fun m5MDisIn_2 => ?_) (fun m5MDisIn_2 => ?_)
                          · refine jr_ic rfl ?_
                            refine jr_zret rfl rfl rfl (Nat.zero_le _) (Nat.zero_le _) ?_
                            refine jr_if_eq rfl (fun _ => ?_) (fun z => absurd (by decide) z)
                            refine jr_ic rfl ?_
                            refine jr_iret rfl rfl (Nat.zero_le _) (Nat.zero_le _) ?_
                            first
                              | exact ⟨rfl, hRel0⟩
                              | (exfalso; omega)
                              | (exfalso; simp (disch := omega) only [Int32.lt_iff_toInt_lt, Int32.le_iff_toInt_le, ← Int32.toInt_inj, Int32.reduceToInt, nI_toInt] at c1RephasMonth c5RephasMonth c1Ledwrite c4Ledwrite c7Ledwrite c10Ledwrite m2MDisIn m5MDisIn m2MDisIn_2 m5MDisIn_2; done)
                              | (exfalso; simp (disch := omega) only [Int32.lt_iff_toInt_lt, Int32.le_iff_toInt_le, ← Int32.toInt_inj, Int32.reduceToInt, nI_toInt] at c1RephasMonth c5RephasMonth c1Ledwrite c4Ledwrite c7Ledwrite c10Ledwrite m2MDisIn m5MDisIn m2MDisIn_2 m5MDisIn_2; omega)
                          · refine jr_ic rfl ?_
                            refine jr_goto rfl ?_
                            refine jr_zret rfl rfl rfl (Nat.zero_le _) (Nat.zero_le _) ?_
                            refine jr_if_eq rfl (fun z => absurd z (by decide)) (fun _ => ?_)
                            refine jr_iload rfl rfl ?_
                            refine jr_ic rfl ?_
                            refine jr_ic rfl ?_
                            refine jr_cs3 (mc' := 0) (ms' := 0) rfl jm_MD_isIn_n jm_MD_isIn_f rfl rfl rfl rfl rfl (Nat.zero_le _) (Nat.zero_le _) ?_
                            show jx_W (jm_MD_isIn, _, _, _, _, _, _) _ 0 0 0 [some _, some _, some _] [] _
                            refine jr_iload rfl rfl ?_
                            refine jr_iload rfl rfl ?_
                            refine jr_icmp_lt rfl (fun m2MDisIn_3 => ?_) (fun m2MDisIn_3 => ?_)
                            · refine jr_ic rfl ?_
                              refine jr_zret rfl rfl rfl (Nat.zero_le _) (Nat.zero_le _) ?_
                              refine jr_if_eq rfl (fun _ => ?_) (fun z => absurd (by decide) z)
                              refine jr_ic rfl ?_
                              refine jr_iret rfl rfl (Nat.zero_le _) (Nat.zero_le _) ?_
                              first
                                | exact ⟨rfl, hRel0⟩
                                | (exfalso; omega)
                                | (exfalso; simp (disch := omega) only [Int32.lt_iff_toInt_lt, Int32.le_iff_toInt_le, ← Int32.toInt_inj, Int32.reduceToInt, nI_toInt] at c1RephasMonth c5RephasMonth c1Ledwrite c4Ledwrite c7Ledwrite c10Ledwrite m2MDisIn m5MDisIn m2MDisIn_2 m5MDisIn_2 m2MDisIn_3; done)
                                | (exfalso; simp (disch := omega) only [Int32.lt_iff_toInt_lt, Int32.le_iff_toInt_le, ← Int32.toInt_inj, Int32.reduceToInt, nI_toInt] at c1RephasMonth c5RephasMonth c1Ledwrite c4Ledwrite c7Ledwrite c10Ledwrite m2MDisIn m5MDisIn m2MDisIn_2 m5MDisIn_2 m2MDisIn_3; omega)
                            · refine jr_iload rfl rfl ?_
                              refine jr_iload rfl rfl ?_
                              refine jr_icmp_gt rfl (fun m5MDisIn_3 => ?_) (fun m5MDisIn_3 => ?_)
                              · refine jr_ic rfl ?_
                                refine jr_zret rfl rfl rfl (Nat.zero_le _) (Nat.zero_le _) ?_
                                refine jr_if_eq rfl (fun _ => ?_) (fun z => absurd (by decide) z)
                                refine jr_ic rfl ?_
                                refine jr_iret rfl rfl (Nat.zero_le _) (Nat.zero_le _) ?_
                                first
                                  | exact ⟨rfl, hRel0⟩
                                  | (exfalso; omega)
                                  | (exfalso; simp (disch := omega) only [Int32.lt_iff_toInt_lt, Int32.le_iff_toInt_le, ← Int32.toInt_inj, Int32.reduceToInt, nI_toInt] at c1RephasMonth c5RephasMonth c1Ledwrite c4Ledwrite c7Ledwrite c10Ledwrite m2MDisIn m5MDisIn m2MDisIn_2 m5MDisIn_2 m2MDisIn_3 m5MDisIn_3; done)
                                  | (exfalso; simp (disch := omega) only [Int32.lt_iff_toInt_lt, Int32.le_iff_toInt_le, ← Int32.toInt_inj, Int32.reduceToInt, nI_toInt] at c1RephasMonth c5RephasMonth c1Ledwrite c4Ledwrite c7Ledwrite c10Ledwrite m2MDisIn m5MDisIn m2MDisIn_2 m5MDisIn_2 m2MDisIn_3 m5MDisIn_3; omega)
                              · refine jr_ic rfl ?_
                                refine jr_goto rfl ?_
                                refine jr_zret rfl rfl rfl (Nat.zero_le _) (Nat.zero_le _) ?_
                                refine jr_if_eq rfl (fun z => absurd z (by decide)) (fun _ => ?_)
                                refine jr_aload rfl rfl ?_
                                refine jr_getI rfl rfl ?_
                                refine jr_ic rfl ?_
                                refine jr_icmp_ne rfl (fun m24 => ?_) (fun m24 => ?_)
                                · first
                                    | (exfalso; omega)
                                    | (exfalso; simp (disch := omega) only [Int32.lt_iff_toInt_lt, Int32.le_iff_toInt_le, ← Int32.toInt_inj, Int32.reduceToInt, nI_toInt] at c1RephasMonth c5RephasMonth c1Ledwrite c4Ledwrite c7Ledwrite c10Ledwrite m2MDisIn m5MDisIn m2MDisIn_2 m5MDisIn_2 m2MDisIn_3 m5MDisIn_3 m24; done)
                                    | (exfalso; simp (disch := omega) only [Int32.lt_iff_toInt_lt, Int32.le_iff_toInt_le, ← Int32.toInt_inj, Int32.reduceToInt, nI_toInt] at c1RephasMonth c5RephasMonth c1Ledwrite c4Ledwrite c7Ledwrite c10Ledwrite m2MDisIn m5MDisIn m2MDisIn_2 m5MDisIn_2 m2MDisIn_3 m5MDisIn_3 m24; omega)
                                · refine jr_ic rfl ?_
                                  refine jr_iret rfl rfl (Nat.zero_le _) (Nat.zero_le _) ?_
                                  first
                                    | exact ⟨rfl, hRel0⟩
                                    | (exfalso; omega)
                                    | (exfalso; simp (disch := omega) only [Int32.lt_iff_toInt_lt, Int32.le_iff_toInt_le, ← Int32.toInt_inj, Int32.reduceToInt, nI_toInt] at c1RephasMonth c5RephasMonth c1Ledwrite c4Ledwrite c7Ledwrite c10Ledwrite m2MDisIn m5MDisIn m2MDisIn_2 m5MDisIn_2 m2MDisIn_3 m5MDisIn_3 m24; done)
                                    | (exfalso; simp (disch := omega) only [Int32.lt_iff_toInt_lt, Int32.le_iff_toInt_le, ← Int32.toInt_inj, Int32.reduceToInt, nI_toInt] at c1RephasMonth c5RephasMonth c1Ledwrite c4Ledwrite c7Ledwrite c10Ledwrite m2MDisIn m5MDisIn m2MDisIn_2 m5MDisIn_2 m2MDisIn_3 m5MDisIn_3 m24; omega)
                  · refine jr_aload rfl rfl ?_
                    refine jr_getI rfl rfl ?_
                    refine jr_ic rfl ?_
                    refine jr_icmp_lt rfl (fun c14Ledwrite => ?_) (fun c14Ledwrite => ?_)
                    · first
                        | (exfalso; omega)
                        | (exfalso; simp (disch := omega) only [Int32.lt_iff_toInt_lt, Int32.le_iff_toInt_le, ← Int32.toInt_inj, Int32.reduceToInt, nI_toInt] at c1RephasMonth c5RephasMonth c1Ledwrite c4Ledwrite c7Ledwrite c10Ledwrite c14Ledwrite; done)
                        | (exfalso; simp (disch := omega) only [Int32.lt_iff_toInt_lt, Int32.le_iff_toInt_le, ← Int32.toInt_inj, Int32.reduceToInt, nI_toInt] at c1RephasMonth c5RephasMonth c1Ledwrite c4Ledwrite c7Ledwrite c10Ledwrite c14Ledwrite; omega)
                    · refine jr_ic rfl ?_
                      refine jr_iret rfl rfl (Nat.zero_le _) (Nat.zero_le _) ?_
                      refine jr_iret rfl rfl (Nat.zero_le _) (Nat.zero_le _) ?_
                      show jx_W (jm_MD_ledger, d + 40, 0, 0, false, 1, _) _ 0 0 0 [some _, some _, some _, some _] [] _
                      refine jr_iload rfl rfl ?_
                      refine jr_ic rfl ?_
                      refine jr_ic rfl ?_
                      refine jr_cs3 (mc' := 0) (ms' := 0) rfl jm_MD_isIn_n jm_MD_isIn_f rfl rfl rfl rfl rfl (Nat.zero_le _) (Nat.zero_le _) ?_
                      show jx_W (jm_MD_isIn, _, _, _, _, _, _) _ 0 0 0 [some _, some _, some _] [] _
                      refine jr_iload rfl rfl ?_
                      refine jr_iload rfl rfl ?_
                      refine jr_icmp_lt rfl (fun m2MDisIn => ?_) (fun m2MDisIn => ?_)
                      · refine jr_ic rfl ?_
                        refine jr_zret rfl rfl rfl (Nat.zero_le _) (Nat.zero_le _) ?_
                        refine jr_if_eq rfl (fun _ => ?_) (fun z => absurd (by decide) z)
                        refine jr_ic rfl ?_
                        refine jr_iret rfl rfl (Nat.zero_le _) (Nat.zero_le _) ?_
                        first
                          | exact ⟨rfl, hRel0⟩
                          | (exfalso; omega)
                          | (exfalso; simp (disch := omega) only [Int32.lt_iff_toInt_lt, Int32.le_iff_toInt_le, ← Int32.toInt_inj, Int32.reduceToInt, nI_toInt] at c1RephasMonth c5RephasMonth c1Ledwrite c4Ledwrite c7Ledwrite c10Ledwrite c14Ledwrite m2MDisIn; done)
                          | (exfalso; simp (disch := omega) only [Int32.lt_iff_toInt_lt, Int32.le_iff_toInt_le, ← Int32.toInt_inj, Int32.reduceToInt, nI_toInt] at c1RephasMonth c5RephasMonth c1Ledwrite c4Ledwrite c7Ledwrite c10Ledwrite c14Ledwrite m2MDisIn; omega)
                      · refine jr_iload rfl rfl ?_
                        refine jr_iload rfl rfl ?_
                        refine jr_icmp_gt rfl (fun m5MDisIn => ?_) (fun m5MDisIn => ?_)
                        · refine jr_ic rfl ?_
                          refine jr_zret rfl rfl rfl (Nat.zero_le _) (Nat.zero_le _) ?_
                          refine jr_if_eq rfl (fun _ => ?_) (fun z => absurd (by decide) z)
                          refine jr_ic rfl ?_
                          refine jr_iret rfl rfl (Nat.zero_le _) (Nat.zero_le _) ?_
                          first
                            | exact ⟨rfl, hRel0⟩
                            | (exfalso; omega)
                            | (exfalso; simp (disch := omega) only [Int32.lt_iff_toInt_lt, Int32.le_iff_toInt_le, ← Int32.toInt_inj, Int32.reduceToInt, nI_toInt] at c1RephasMonth c5RephasMonth c1Ledwrite c4Ledwrite c7Ledwrite c10Ledwrite c14Ledwrite m2MDisIn m5MDisIn; done)
                            | (exfalso; simp (disch := omega) only [Int32.lt_iff_toInt_lt, Int32.le_iff_toInt_le, ← Int32.toInt_inj, Int32.reduceToInt, nI_toInt] at c1RephasMonth c5RephasMonth c1Ledwrite c4Ledwrite c7Ledwrite c10Ledwrite c14Ledwrite m2MDisIn m5MDisIn; omega)
                        · refine jr_ic rfl ?_
                          refine jr_goto rfl ?_
                          refine jr_zret rfl rfl rfl (Nat.zero_le _) (Nat.zero_le _) ?_
                          refine jr_if_eq rfl (fun z => absurd z (by decide)) (fun _ => ?_)
                          refine jr_iload rfl rfl ?_
                          refine jr_ic rfl ?_
                          refine jr_aload rfl rfl ?_
                          refine jr_getR rfl rfl rfl rfl (Or.inl rfl) ?_
                          refine jr_aload rfl rfl ?_
                          refine jr_getI rfl rfl ?_
                          refine jr_iald (len := 2) rfl rfl hw.1 (by omega) ?_
                          refine jr_ic rfl ?_
                          refine jr_isub rfl ?_
                          refine jr_cs3 (mc' := 0) (ms' := 0) rfl jm_MD_isIn_n jm_MD_isIn_f rfl rfl rfl rfl rfl (Nat.zero_le _) (Nat.zero_le _) ?_
                          show jx_W (jm_MD_isIn, _, _, _, _, _, _) _ 0 0 0 [some _, some _, some _] [] _
                          refine jr_iload rfl rfl ?_
                          refine jr_iload rfl rfl ?_
                          refine jr_icmp_lt rfl (fun m2MDisIn_2 => ?_) (fun m2MDisIn_2 => ?_)
                          · refine jr_ic rfl ?_
                            refine jr_zret rfl rfl rfl (Nat.zero_le _) (Nat.zero_le _) ?_
                            refine jr_if_eq rfl (fun _ => ?_) (fun z => absurd (by decide) z)
                            refine jr_ic rfl ?_
                            refine jr_iret rfl rfl (Nat.zero_le _) (Nat.zero_le _) ?_
                            first
                              | exact ⟨rfl, hRel0⟩
                              | (exfalso; omega)
                              | (exfalso; simp (disch := omega) only [Int32.lt_iff_toInt_lt, Int32.le_iff_toInt_le, ← Int32.toInt_inj, Int32.reduceToInt, nI_toInt] at c1RephasMonth c5RephasMonth c1Ledwrite c4Ledwrite c7Ledwrite c10Ledwrite c14Ledwrite m2MDisIn m5MDisIn m2MDisIn_2; done)
                              | (exfalso; simp (disch := omega) only [Int32.lt_iff_toInt_lt, Int32.le_iff_toInt_le, ← Int32.toInt_inj, Int32.reduceToInt, nI_toInt] at c1RephasMonth c5RephasMonth c1Ledwrite c4Ledwrite c7Ledwrite c10Ledwrite c14Ledwrite m2MDisIn m5MDisIn m2MDisIn_2; omega)
                          · refine jr_iload rfl rfl ?_
                            refine jr_iload rfl rfl ?_
                            refine jr_icmp_gt rfl (fun m5MDisIn_2 => ?_) (fun m5MDisIn_2 => ?_)
                            · refine jr_ic rfl ?_
                              refine jr_zret rfl rfl rfl (Nat.zero_le _) (Nat.zero_le _) ?_
                              refine jr_if_eq rfl (fun _ => ?_) (fun z => absurd (by decide) z)
                              refine jr_ic rfl ?_
                              refine jr_iret rfl rfl (Nat.zero_le _) (Nat.zero_le _) ?_
                              first
                                | exact ⟨rfl, hRel0⟩
                                | (exfalso; omega)
                                | (exfalso; simp (disch := omega) only [Int32.lt_iff_toInt_lt, Int32.le_iff_toInt_le, ← Int32.toInt_inj, Int32.reduceToInt, nI_toInt] at c1RephasMonth c5RephasMonth c1Ledwrite c4Ledwrite c7Ledwrite c10Ledwrite c14Ledwrite m2MDisIn m5MDisIn m2MDisIn_2 m5MDisIn_2; done)
                                | (exfalso; simp (disch := omega) only [Int32.lt_iff_toInt_lt, Int32.le_iff_toInt_le, ← Int32.toInt_inj, Int32.reduceToInt, nI_toInt] at c1RephasMonth c5RephasMonth c1Ledwrite c4Ledwrite c7Ledwrite c10Ledwrite c14Ledwrite m2MDisIn m5MDisIn m2MDisIn_2 m5MDisIn_2; omega)
                            · refine jr_ic rfl ?_
                              refine jr_goto rfl ?_
                              refine jr_zret rfl rfl rfl (Nat.zero_le _) (Nat.zero_le _) ?_
                              refine jr_if_eq rfl (fun z => absurd z (by decide)) (fun _ => ?_)
                              refine jr_iload rfl rfl ?_
                              refine jr_ic rfl ?_
                              refine jr_ic rfl ?_
                              refine jr_cs3 (mc' := 0) (ms' := 0) rfl jm_MD_isIn_n jm_MD_isIn_f rfl rfl rfl rfl rfl (Nat.zero_le _) (Nat.zero_le _) ?_
                              show jx_W (jm_MD_isIn, _, _, _, _, _, _) _ 0 0 0 [some _, some _, some _] [] _
                              refine jr_iload rfl rfl ?_
                              refine jr_iload rfl rfl ?_
                              refine jr_icmp_lt rfl (fun m2MDisIn_3 => ?_) (fun m2MDisIn_3 => ?_)
                              · refine jr_ic rfl ?_
                                refine jr_zret rfl rfl rfl (Nat.zero_le _) (Nat.zero_le _) ?_
                                refine jr_if_eq rfl (fun _ => ?_) (fun z => absurd (by decide) z)
                                refine jr_ic rfl ?_
                                refine jr_iret rfl rfl (Nat.zero_le _) (Nat.zero_le _) ?_
                                first
                                  | exact ⟨rfl, hRel0⟩
                                  | (exfalso; omega)
                                  | (exfalso; simp (disch := omega) only [Int32.lt_iff_toInt_lt, Int32.le_iff_toInt_le, ← Int32.toInt_inj, Int32.reduceToInt, nI_toInt] at c1RephasMonth c5RephasMonth c1Ledwrite c4Ledwrite c7Ledwrite c10Ledwrite c14Ledwrite m2MDisIn m5MDisIn m2MDisIn_2 m5MDisIn_2 m2MDisIn_3; done)
                                  | (exfalso; simp (disch := omega) only [Int32.lt_iff_toInt_lt, Int32.le_iff_toInt_le, ← Int32.toInt_inj, Int32.reduceToInt, nI_toInt] at c1RephasMonth c5RephasMonth c1Ledwrite c4Ledwrite c7Ledwrite c10Ledwrite c14Ledwrite m2MDisIn m5MDisIn m2MDisIn_2 m5MDisIn_2 m2MDisIn_3; omega)
                              · refine jr_iload rfl rfl ?_
                                refine jr_iload rfl rfl ?_
                                refine jr_icmp_gt rfl (fun m5MDisIn_3 => ?_) (fun m5MDisIn_3 => ?_)
                                · refine jr_ic rfl ?_
                                  refine jr_zret rfl rfl rfl (Nat.zero_le _) (Nat.zero_le _) ?_
                                  refine jr_if_eq rfl (fun _ => ?_) (fun z => absurd (by decide) z)
                                  refine jr_ic rfl ?_
                                  refine jr_iret rfl rfl (Nat.zero_le _) (Nat.zero_le _) ?_
                                  first
                                    | exact ⟨rfl, hRel0⟩
                                    | (exfalso; omega)
                                    | (exfalso; simp (disch := omega) only [Int32.lt_iff_toInt_lt, Int32.le_iff_toInt_le, ← Int32.toInt_inj, Int32.reduceToInt, nI_toInt] at c1RephasMonth c5RephasMonth c1Ledwrite c4Ledwrite c7Ledwrite c10Ledwrite c14Ledwrite m2MDisIn m5MDisIn m2MDisIn_2 m5MDisIn_2 m2MDisIn_3 m5MDisIn_3; done)
                                    | (exfalso; simp (disch := omega) only [Int32.lt_iff_toInt_lt, Int32.le_iff_toInt_le, ← Int32.toInt_inj, Int32.reduceToInt, nI_toInt] at c1RephasMonth c5RephasMonth c1Ledwrite c4Ledwrite c7Ledwrite c10Ledwrite c14Ledwrite m2MDisIn m5MDisIn m2MDisIn_2 m5MDisIn_2 m2MDisIn_3 m5MDisIn_3; omega)
                                · refine jr_ic rfl ?_
                                  refine jr_goto rfl ?_
                                  refine jr_zret rfl rfl rfl (Nat.zero_le _) (Nat.zero_le _) ?_
                                  refine jr_if_eq rfl (fun z => absurd z (by decide)) (fun _ => ?_)
                                  refine jr_aload rfl rfl ?_
                                  refine jr_getI rfl rfl ?_
                                  refine jr_ic rfl ?_
                                  refine jr_icmp_ne rfl (fun m24 => ?_) (fun m24 => ?_)
                                  · first
                                      | (exfalso; omega)
                                      | (exfalso; simp (disch := omega) only [Int32.lt_iff_toInt_lt, Int32.le_iff_toInt_le, ← Int32.toInt_inj, Int32.reduceToInt, nI_toInt] at c1RephasMonth c5RephasMonth c1Ledwrite c4Ledwrite c7Ledwrite c10Ledwrite c14Ledwrite m2MDisIn m5MDisIn m2MDisIn_2 m5MDisIn_2 m2MDisIn_3 m5MDisIn_3 m24; done)
                                      | (exfalso; simp (disch := omega) only [Int32.lt_iff_toInt_lt, Int32.le_iff_toInt_le, ← Int32.toInt_inj, Int32.reduceToInt, nI_toInt] at c1RephasMonth c5RephasMonth c1Ledwrite c4Ledwrite c7Ledwrite c10Ledwrite c14Ledwrite m2MDisIn m5MDisIn m2MDisIn_2 m5MDisIn_2 m2MDisIn_3 m5MDisIn_3 m24; omega)
                                  · refine jr_ic rfl ?_
                                    refine jr_iret rfl rfl (Nat.zero_le _) (Nat.zero_le _) ?_
                                    first
                                      | exact ⟨rfl, hRel0⟩
                                      | (exfalso; omega)
                                      | (exfalso; simp (disch := omega) only [Int32.lt_iff_toInt_lt, Int32.le_iff_toInt_le, ← Int32.toInt_inj, Int32.reduceToInt, nI_toInt] at c1RephasMonth c5RephasMonth c1Ledwrite c4Ledwrite c7Ledwrite c10Ledwrite c14Ledwrite m2MDisIn m5MDisIn m2MDisIn_2 m5MDisIn_2 m2MDisIn_3 m5MDisIn_3 m24; done)
                                      | (exfalso; simp (disch := omega) only [Int32.lt_iff_toInt_lt, Int32.le_iff_toInt_le, ← Int32.toInt_inj, Int32.reduceToInt, nI_toInt] at c1RephasMonth c5RephasMonth c1Ledwrite c4Ledwrite c7Ledwrite c10Ledwrite c14Ledwrite m2MDisIn m5MDisIn m2MDisIn_2 m5MDisIn_2 m2MDisIn_3 m5MDisIn_3 m24; omega)
    · show jx_W (jm_JV_ledger, d + 40, 0, 0, false, 0, _) _ 0 0 0 [some (jv_r 10 0), some (jv_i (nI q)), some (jv_i y), some (jv_i z)] [] _
      refine jr_aload rfl rfl ?_
      refine jr_getM rfl rfl rfl rfl hto ?_
      refine jr_iload rfl rfl ?_
      refine jr_cv1 (mc' := 0) (ms' := 0) rfl jm_Rep_hasMonth_n jm_Rep_hasMonth_f rfl rfl rfl rfl rfl rfl rfl (Nat.zero_le _) (Nat.zero_le _) ?_
      show jx_W (jm_Rep_hasMonth, _, _, _, _, _, _) _ 0 0 0 [some _, some _] [] _
      refine jr_iload rfl rfl ?_
      refine jr_if_lt rfl (fun c1RephasMonth => ?_) (fun c1RephasMonth => ?_)
      · refine jr_ic rfl ?_
        refine jr_zret rfl rfl rfl (Nat.zero_le _) (Nat.zero_le _) ?_
        refine jr_if_ne rfl (fun z => absurd (by decide) z) (fun _ => ?_)
        refine jr_ic rfl ?_
        refine jr_iret rfl rfl (Nat.zero_le _) (Nat.zero_le _) ?_
        show jx_W (jm_MD_ledger, d + 40, 0, 0, false, 1, _) _ 0 0 0 [some _, some _, some _, some _] [] _
        refine jr_iload rfl rfl ?_
        refine jr_ic rfl ?_
        refine jr_ic rfl ?_
        refine jr_cs3 (mc' := 0) (ms' := 0) rfl jm_MD_isIn_n jm_MD_isIn_f rfl rfl rfl rfl rfl (Nat.zero_le _) (Nat.zero_le _) ?_
        show jx_W (jm_MD_isIn, _, _, _, _, _, _) _ 0 0 0 [some _, some _, some _] [] _
        refine jr_iload rfl rfl ?_
        refine jr_iload rfl rfl ?_
        refine jr_icmp_lt rfl (fun m2MDisIn => ?_) (fun m2MDisIn => ?_)
        · refine jr_ic rfl ?_
          refine jr_zret rfl rfl rfl (Nat.zero_le _) (Nat.zero_le _) ?_
          refine jr_if_eq rfl (fun _ => ?_) (fun z => absurd (by decide) z)
          refine jr_ic rfl ?_
          refine jr_iret rfl rfl (Nat.zero_le _) (Nat.zero_le _) ?_
          first
            | exact ⟨rfl, hRel0⟩
            | (exfalso; omega)
            | (exfalso; simp (disch := omega) only [Int32.lt_iff_toInt_lt, Int32.le_iff_toInt_le, ← Int32.toInt_inj, Int32.reduceToInt, nI_toInt] at c1RephasMonth m2MDisIn; done)
            | (exfalso; simp (disch := omega) only [Int32.lt_iff_toInt_lt, Int32.le_iff_toInt_le, ← Int32.toInt_inj, Int32.reduceToInt, nI_toInt] at c1RephasMonth m2MDisIn; omega)
        · refine jr_iload rfl rfl ?_
          refine jr_iload rfl rfl ?_
          refine jr_icmp_gt rfl (fun m5MDisIn => ?_) (fun m5MDisIn => ?_)
          · refine jr_ic rfl ?_
            refine jr_zret rfl rfl rfl (Nat.zero_le _) (Nat.zero_le _) ?_
            refine jr_if_eq rfl (fun _ => ?_) (fun z => absurd (by decide) z)
            refine jr_ic rfl ?_
            refine jr_iret rfl rfl (Nat.zero_le _) (Nat.zero_le _) ?_
            first
              | exact ⟨rfl, hRel0⟩
              | (exfalso; omega)
              | (exfalso; simp (disch := omega) only [Int32.lt_iff_toInt_lt, Int32.le_iff_toInt_le, ← Int32.toInt_inj, Int32.reduceToInt, nI_toInt] at c1RephasMonth m2MDisIn m5MDisIn; done)
              | (exfalso; simp (disch := omega) only [Int32.lt_iff_toInt_lt, Int32.le_iff_toInt_le, ← Int32.toInt_inj, Int32.reduceToInt, nI_toInt] at c1RephasMonth m2MDisIn m5MDisIn; omega)
          · refine jr_ic rfl ?_
            refine jr_goto rfl ?_
            refine jr_zret rfl rfl rfl (Nat.zero_le _) (Nat.zero_le _) ?_
            refine jr_if_eq rfl (fun z => absurd z (by decide)) (fun _ => ?_)
            refine jr_iload rfl rfl ?_
            refine jr_ic rfl ?_
            refine jr_aload rfl rfl ?_
            refine jr_getR rfl rfl rfl rfl (Or.inl rfl) ?_
            refine jr_aload rfl rfl ?_
            refine jr_getI rfl rfl ?_
            refine jr_iald (len := 2) rfl rfl hw.1 (by omega) ?_
            refine jr_ic rfl ?_
            refine jr_isub rfl ?_
            refine jr_cs3 (mc' := 0) (ms' := 0) rfl jm_MD_isIn_n jm_MD_isIn_f rfl rfl rfl rfl rfl (Nat.zero_le _) (Nat.zero_le _) ?_
            show jx_W (jm_MD_isIn, _, _, _, _, _, _) _ 0 0 0 [some _, some _, some _] [] _
            refine jr_iload rfl rfl ?_
            refine jr_iload rfl rfl ?_
            refine jr_icmp_lt rfl (fun m2MDisIn_2 => ?_) (fun m2MDisIn_2 => ?_)
            · refine jr_ic rfl ?_
              refine jr_zret rfl rfl rfl (Nat.zero_le _) (Nat.zero_le _) ?_
              refine jr_if_eq rfl (fun _ => ?_) (fun z => absurd (by decide) z)
              refine jr_ic rfl ?_
              refine jr_iret rfl rfl (Nat.zero_le _) (Nat.zero_le _) ?_
              first
                | exact ⟨rfl, hRel0⟩
                | (exfalso; omega)
                | (exfalso; simp (disch := omega) only [Int32.lt_iff_toInt_lt, Int32.le_iff_toInt_le, ← Int32.toInt_inj, Int32.reduceToInt, nI_toInt] at c1RephasMonth m2MDisIn m5MDisIn m2MDisIn_2; done)
                | (exfalso; simp (disch := omega) only [Int32.lt_iff_toInt_lt, Int32.le_iff_toInt_le, ← Int32.toInt_inj, Int32.reduceToInt, nI_toInt] at c1RephasMonth m2MDisIn m5MDisIn m2MDisIn_2; omega)
            · refine jr_iload rfl rfl ?_
              refine jr_iload rfl rfl ?_
              refine jr_icmp_gt rfl (fun m5MDisIn_2 => ?_) (fun m5MDisIn_2 => ?_)
              · refine jr_ic rfl ?_
                refine jr_zret rfl rfl rfl (Nat.zero_le _) (Nat.zero_le _) ?_
                refine jr_if_eq rfl (fun _ => ?_) (fun z => absurd (by decide) z)
                refine jr_ic rfl ?_
                refine jr_iret rfl rfl (Nat.zero_le _) (Nat.zero_le _) ?_
                first
                  | exact ⟨rfl, hRel0⟩
                  | (exfalso; omega)
                  | (exfalso; simp (disch := omega) only [Int32.lt_iff_toInt_lt, Int32.le_iff_toInt_le, ← Int32.toInt_inj, Int32.reduceToInt, nI_toInt] at c1RephasMonth m2MDisIn m5MDisIn m2MDisIn_2 m5MDisIn_2; done)
                  | (exfalso; simp (disch := omega) only [Int32.lt_iff_toInt_lt, Int32.le_iff_toInt_le, ← Int32.toInt_inj, Int32.reduceToInt, nI_toInt] at c1RephasMonth m2MDisIn m5MDisIn m2MDisIn_2 m5MDisIn_2; omega)
              · refine jr_ic rfl ?_
                refine jr_goto rfl ?_
                refine jr_zret rfl rfl rfl (Nat.zero_le _) (Nat.zero_le _) ?_
                refine jr_if_eq rfl (fun z => absurd z (by decide)) (fun _ => ?_)
                refine jr_iload rfl rfl ?_
                refine jr_ic rfl ?_
                refine jr_ic rfl ?_
                refine jr_cs3 (mc' := 0) (ms' := 0) rfl jm_MD_isIn_n jm_MD_isIn_f rfl rfl rfl rfl rfl (Nat.zero_le _) (Nat.zero_le _) ?_
                show jx_W (jm_MD_isIn, _, _, _, _, _, _) _ 0 0 0 [some _, some _, some _] [] _
                refine jr_iload rfl rfl ?_
                refine jr_iload rfl rfl ?_
                refine jr_icmp_lt rfl (fun m2MDisIn_3 => ?_) (fun m2MDisIn_3 => ?_)
                · refine jr_ic rfl ?_
                  refine jr_zret rfl rfl rfl (Nat.zero_le _) (Nat.zero_le _) ?_
                  refine jr_if_eq rfl (fun _ => ?_) (fun z => absurd (by decide) z)
                  refine jr_ic rfl ?_
                  refine jr_iret rfl rfl (Nat.zero_le _) (Nat.zero_le _) ?_
                  first
                    | exact ⟨rfl, hRel0⟩
                    | (exfalso; omega)
                    | (exfalso; simp (disch := omega) only [Int32.lt_iff_toInt_lt, Int32.le_iff_toInt_le, ← Int32.toInt_inj, Int32.reduceToInt, nI_toInt] at c1RephasMonth m2MDisIn m5MDisIn m2MDisIn_2 m5MDisIn_2 m2MDisIn_3; done)
                    | (exfalso; simp (disch := omega) only [Int32.lt_iff_toInt_lt, Int32.le_iff_toInt_le, ← Int32.toInt_inj, Int32.reduceToInt, nI_toInt] at c1RephasMonth m2MDisIn m5MDisIn m2MDisIn_2 m5MDisIn_2 m2MDisIn_3; omega)
                · refine jr_iload rfl rfl ?_
                  refine jr_iload rfl rfl ?_
                  refine jr_icmp_gt rfl (fun m5MDisIn_3 => ?_) (fun m5MDisIn_3 => ?_)
                  · refine jr_ic rfl ?_
                    refine jr_zret rfl rfl rfl (Nat.zero_le _) (Nat.zero_le _) ?_
                    refine jr_if_eq rfl (fun _ => ?_) (fun z => absurd (by decide) z)
                    refine jr_ic rfl ?_
                    refine jr_iret rfl rfl (Nat.zero_le _) (Nat.zero_le _) ?_
                    first
                      | exact ⟨rfl, hRel0⟩
                      | (exfalso; omega)
                      | (exfalso; simp (disch := omega) only [Int32.lt_iff_toInt_lt, Int32.le_iff_toInt_le, ← Int32.toInt_inj, Int32.reduceToInt, nI_toInt] at c1RephasMonth m2MDisIn m5MDisIn m2MDisIn_2 m5MDisIn_2 m2MDisIn_3 m5MDisIn_3; done)
                      | (exfalso; simp (disch := omega) only [Int32.lt_iff_toInt_lt, Int32.le_iff_toInt_le, ← Int32.toInt_inj, Int32.reduceToInt, nI_toInt] at c1RephasMonth m2MDisIn m5MDisIn m2MDisIn_2 m5MDisIn_2 m2MDisIn_3 m5MDisIn_3; omega)
                  · refine jr_ic rfl ?_
                    refine jr_goto rfl ?_
                    refine jr_zret rfl rfl rfl (Nat.zero_le _) (Nat.zero_le _) ?_
                    refine jr_if_eq rfl (fun z => absurd z (by decide)) (fun _ => ?_)
                    refine jr_aload rfl rfl ?_
                    refine jr_getI rfl rfl ?_
                    refine jr_ic rfl ?_
                    refine jr_icmp_ne rfl (fun m24 => ?_) (fun m24 => ?_)
                    · first
                        | (exfalso; omega)
                        | (exfalso; simp (disch := omega) only [Int32.lt_iff_toInt_lt, Int32.le_iff_toInt_le, ← Int32.toInt_inj, Int32.reduceToInt, nI_toInt] at c1RephasMonth m2MDisIn m5MDisIn m2MDisIn_2 m5MDisIn_2 m2MDisIn_3 m5MDisIn_3 m24; done)
                        | (exfalso; simp (disch := omega) only [Int32.lt_iff_toInt_lt, Int32.le_iff_toInt_le, ← Int32.toInt_inj, Int32.reduceToInt, nI_toInt] at c1RephasMonth m2MDisIn m5MDisIn m2MDisIn_2 m5MDisIn_2 m2MDisIn_3 m5MDisIn_3 m24; omega)
                    · refine jr_ic rfl ?_
                      refine jr_iret rfl rfl (Nat.zero_le _) (Nat.zero_le _) ?_
                      first
                        | exact ⟨rfl, hRel0⟩
                        | (exfalso; omega)
                        | (exfalso; simp (disch := omega) only [Int32.lt_iff_toInt_lt, Int32.le_iff_toInt_le, ← Int32.toInt_inj, Int32.reduceToInt, nI_toInt] at c1RephasMonth m2MDisIn m5MDisIn m2MDisIn_2 m5MDisIn_2 m2MDisIn_3 m5MDisIn_3 m24; done)
                        | (exfalso; simp (disch := omega) only [Int32.lt_iff_toInt_lt, Int32.le_iff_toInt_le, ← Int32.toInt_inj, Int32.reduceToInt, nI_toInt] at c1RephasMonth m2MDisIn m5MDisIn m2MDisIn_2 m5MDisIn_2 m2MDisIn_3 m5MDisIn_3 m24; omega)
      · refine jr_iload rfl rfl ?_
        refine jr_aload rfl rfl ?_
        refine jr_getI rfl rfl ?_
        refine jr_icmp_ge rfl (fun c5RephasMonth => ?_) (fun c5RephasMonth => ?_)
        · refine jr_ic rfl ?_
          refine jr_zret rfl rfl rfl (Nat.zero_le _) (Nat.zero_le _) ?_
          refine jr_if_ne rfl (fun z => absurd (by decide) z) (fun _ => ?_)
          refine jr_ic rfl ?_
          refine jr_iret rfl rfl (Nat.zero_le _) (Nat.zero_le _) ?_
          show jx_W (jm_MD_ledger, d + 40, 0, 0, false, 1, _) _ 0 0 0 [some _, some _, some _, some _] [] _
          refine jr_iload rfl rfl ?_
          refine jr_ic rfl ?_
          refine jr_ic rfl ?_
          refine jr_cs3 (mc' := 0) (ms' := 0) rfl jm_MD_isIn_n jm_MD_isIn_f rfl rfl rfl rfl rfl (Nat.zero_le _) (Nat.zero_le _) ?_
          show jx_W (jm_MD_isIn, _, _, _, _, _, _) _ 0 0 0 [some _, some _, some _] [] _
          refine jr_iload rfl rfl ?_
          refine jr_iload rfl rfl ?_
          refine jr_icmp_lt rfl (fun m2MDisIn => ?_) (fun m2MDisIn => ?_)
          · refine jr_ic rfl ?_
            refine jr_zret rfl rfl rfl (Nat.zero_le _) (Nat.zero_le _) ?_
            refine jr_if_eq rfl (fun _ => ?_) (fun z => absurd (by decide) z)
            refine jr_ic rfl ?_
            refine jr_iret rfl rfl (Nat.zero_le _) (Nat.zero_le _) ?_
            first
              | exact ⟨rfl, hRel0⟩
              | (exfalso; omega)
              | (exfalso; simp (disch := omega) only [Int32.lt_iff_toInt_lt, Int32.le_iff_toInt_le, ← Int32.toInt_inj, Int32.reduceToInt, nI_toInt] at c1RephasMonth c5RephasMonth m2MDisIn; done)
              | (exfalso; simp (disch := omega) only [Int32.lt_iff_toInt_lt, Int32.le_iff_toInt_le, ← Int32.toInt_inj, Int32.reduceToInt, nI_toInt] at c1RephasMonth c5RephasMonth m2MDisIn; omega)
          · refine jr_iload rfl rfl ?_
            refine jr_iload rfl rfl ?_
            refine jr_icmp_gt rfl (fun m5MDisIn => ?_) (fun m5MDisIn => ?_)
            · refine jr_ic rfl ?_
              refine jr_zret rfl rfl rfl (Nat.zero_le _) (Nat.zero_le _) ?_
              refine jr_if_eq rfl (fun _ => ?_) (fun z => absurd (by decide) z)
              refine jr_ic rfl ?_
              refine jr_iret rfl rfl (Nat.zero_le _) (Nat.zero_le _) ?_
              first
                | exact ⟨rfl, hRel0⟩
                | (exfalso; omega)
                | (exfalso; simp (disch := omega) only [Int32.lt_iff_toInt_lt, Int32.le_iff_toInt_le, ← Int32.toInt_inj, Int32.reduceToInt, nI_toInt] at c1RephasMonth c5RephasMonth m2MDisIn m5MDisIn; done)
                | (exfalso; simp (disch := omega) only [Int32.lt_iff_toInt_lt, Int32.le_iff_toInt_le, ← Int32.toInt_inj, Int32.reduceToInt, nI_toInt] at c1RephasMonth c5RephasMonth m2MDisIn m5MDisIn; omega)
            · refine jr_ic rfl ?_
              refine jr_goto rfl ?_
              refine jr_zret rfl rfl rfl (Nat.zero_le _) (Nat.zero_le _) ?_
              refine jr_if_eq rfl (fun z => absurd z (by decide)) (fun _ => ?_)
              refine jr_iload rfl rfl ?_
              refine jr_ic rfl ?_
              refine jr_aload rfl rfl ?_
              refine jr_getR rfl rfl rfl rfl (Or.inl rfl) ?_
              refine jr_aload rfl rfl ?_
              refine jr_getI rfl rfl ?_
              refine jr_iald (len := 2) rfl rfl hw.1 (by omega) ?_
              refine jr_ic rfl ?_
              refine jr_isub rfl ?_
              refine jr_cs3 (mc' := 0) (ms' := 0) rfl jm_MD_isIn_n jm_MD_isIn_f rfl rfl rfl rfl rfl (Nat.zero_le _) (Nat.zero_le _) ?_
              show jx_W (jm_MD_isIn, _, _, _, _, _, _) _ 0 0 0 [some _, some _, some _] [] _
              refine jr_iload rfl rfl ?_
              refine jr_iload rfl rfl ?_
              refine jr_icmp_lt rfl (fun m2MDisIn_2 => ?_) (fun m2MDisIn_2 => ?_)
              · refine jr_ic rfl ?_
                refine jr_zret rfl rfl rfl (Nat.zero_le _) (Nat.zero_le _) ?_
                refine jr_if_eq rfl (fun _ => ?_) (fun z => absurd (by decide) z)
                refine jr_ic rfl ?_
                refine jr_iret rfl rfl (Nat.zero_le _) (Nat.zero_le _) ?_
                first
                  | exact ⟨rfl, hRel0⟩
                  | (exfalso; omega)
                  | (exfalso; simp (disch := omega) only [Int32.lt_iff_toInt_lt, Int32.le_iff_toInt_le, ← Int32.toInt_inj, Int32.reduceToInt, nI_toInt] at c1RephasMonth c5RephasMonth m2MDisIn m5MDisIn m2MDisIn_2; done)
                  | (exfalso; simp (disch := omega) only [Int32.lt_iff_toInt_lt, Int32.le_iff_toInt_le, ← Int32.toInt_inj, Int32.reduceToInt, nI_toInt] at c1RephasMonth c5RephasMonth m2MDisIn m5MDisIn m2MDisIn_2; omega)
              · refine jr_iload rfl rfl ?_
                refine jr_iload rfl rfl ?_
                refine jr_icmp_gt rfl (fun m5MDisIn_2 => ?_) (fun m5MDisIn_2 => ?_)
                · refine jr_ic rfl ?_
                  refine jr_zret rfl rfl rfl (Nat.zero_le _) (Nat.zero_le _) ?_
                  refine jr_if_eq rfl (fun _ => ?_) (fun z => absurd (by decide) z)
                  refine jr_ic rfl ?_
                  refine jr_iret rfl rfl (Nat.zero_le _) (Nat.zero_le _) ?_
                  first
                    | exact ⟨rfl, hRel0⟩
                    | (exfalso; omega)
                    | (exfalso; simp (disch := omega) only [Int32.lt_iff_toInt_lt, Int32.le_iff_toInt_le, ← Int32.toInt_inj, Int32.reduceToInt, nI_toInt] at c1RephasMonth c5RephasMonth m2MDisIn m5MDisIn m2MDisIn_2 m5MDisIn_2; done)
                    | (exfalso; simp (disch := omega) only [Int32.lt_iff_toInt_lt, Int32.le_iff_toInt_le, ← Int32.toInt_inj, Int32.reduceToInt, nI_toInt] at c1RephasMonth c5RephasMonth m2MDisIn m5MDisIn m2MDisIn_2 m5MDisIn_2; omega)
                · refine jr_ic rfl ?_
                  refine jr_goto rfl ?_
                  refine jr_zret rfl rfl rfl (Nat.zero_le _) (Nat.zero_le _) ?_
                  refine jr_if_eq rfl (fun z => absurd z (by decide)) (fun _ => ?_)
                  refine jr_iload rfl rfl ?_
                  refine jr_ic rfl ?_
                  refine jr_ic rfl ?_
                  refine jr_cs3 (mc' := 0) (ms' := 0) rfl jm_MD_isIn_n jm_MD_isIn_f rfl rfl rfl rfl rfl (Nat.zero_le _) (Nat.zero_le _) ?_
                  show jx_W (jm_MD_isIn, _, _, _, _, _, _) _ 0 0 0 [some _, some _, some _] [] _
                  refine jr_iload rfl rfl ?_
                  refine jr_iload rfl rfl ?_
                  refine jr_icmp_lt rfl (fun m2MDisIn_3 => ?_) (fun m2MDisIn_3 => ?_)
                  · refine jr_ic rfl ?_
                    refine jr_zret rfl rfl rfl (Nat.zero_le _) (Nat.zero_le _) ?_
                    refine jr_if_eq rfl (fun _ => ?_) (fun z => absurd (by decide) z)
                    refine jr_ic rfl ?_
                    refine jr_iret rfl rfl (Nat.zero_le _) (Nat.zero_le _) ?_
                    first
                      | exact ⟨rfl, hRel0⟩
                      | (exfalso; omega)
                      | (exfalso; simp (disch := omega) only [Int32.lt_iff_toInt_lt, Int32.le_iff_toInt_le, ← Int32.toInt_inj, Int32.reduceToInt, nI_toInt] at c1RephasMonth c5RephasMonth m2MDisIn m5MDisIn m2MDisIn_2 m5MDisIn_2 m2MDisIn_3; done)
                      | (exfalso; simp (disch := omega) only [Int32.lt_iff_toInt_lt, Int32.le_iff_toInt_le, ← Int32.toInt_inj, Int32.reduceToInt, nI_toInt] at c1RephasMonth c5RephasMonth m2MDisIn m5MDisIn m2MDisIn_2 m5MDisIn_2 m2MDisIn_3; omega)
                  · refine jr_iload rfl rfl ?_
                    refine jr_iload rfl rfl ?_
                    refine jr_icmp_gt rfl (fun m5MDisIn_3 => ?_) (fun m5MDisIn_3 => ?_)
                    · refine jr_ic rfl ?_
                      refine jr_zret rfl rfl rfl (Nat.zero_le _) (Nat.zero_le _) ?_
                      refine jr_if_eq rfl (fun _ => ?_) (fun z => absurd (by decide) z)
                      refine jr_ic rfl ?_
                      refine jr_iret rfl rfl (Nat.zero_le _) (Nat.zero_le _) ?_
                      first
                        | exact ⟨rfl, hRel0⟩
                        | (exfalso; omega)
                        | (exfalso; simp (disch := omega) only [Int32.lt_iff_toInt_lt, Int32.le_iff_toInt_le, ← Int32.toInt_inj, Int32.reduceToInt, nI_toInt] at c1RephasMonth c5RephasMonth m2MDisIn m5MDisIn m2MDisIn_2 m5MDisIn_2 m2MDisIn_3 m5MDisIn_3; done)
                        | (exfalso; simp (disch := omega) only [Int32.lt_iff_toInt_lt, Int32.le_iff_toInt_le, ← Int32.toInt_inj, Int32.reduceToInt, nI_toInt] at c1RephasMonth c5RephasMonth m2MDisIn m5MDisIn m2MDisIn_2 m5MDisIn_2 m2MDisIn_3 m5MDisIn_3; omega)
                    · refine jr_ic rfl ?_
                      refine jr_goto rfl ?_
                      refine jr_zret rfl rfl rfl (Nat.zero_le _) (Nat.zero_le _) ?_
                      refine jr_if_eq rfl (fun z => absurd z (by decide)) (fun _ => ?_)
                      refine jr_aload rfl rfl ?_
                      refine jr_getI rfl rfl ?_
                      refine jr_ic rfl ?_
                      refine jr_icmp_ne rfl (fun m24 => ?_) (fun m24 => ?_)
                      · first
                          | (exfalso; omega)
                          | (exfalso; simp (disch := omega) only [Int32.lt_iff_toInt_lt, Int32.le_iff_toInt_le, ← Int32.toInt_inj, Int32.reduceToInt, nI_toInt] at c1RephasMonth c5RephasMonth m2MDisIn m5MDisIn m2MDisIn_2 m5MDisIn_2 m2MDisIn_3 m5MDisIn_3 m24; done)
                          | (exfalso; simp (disch := omega) only [Int32.lt_iff_toInt_lt, Int32.le_iff_toInt_le, ← Int32.toInt_inj, Int32.reduceToInt, nI_toInt] at c1RephasMonth c5RephasMonth m2MDisIn m5MDisIn m2MDisIn_2 m5MDisIn_2 m2MDisIn_3 m5MDisIn_3 m24; omega)
                      · refine jr_ic rfl ?_
                        refine jr_iret rfl rfl (Nat.zero_le _) (Nat.zero_le _) ?_
                        first
                          | exact ⟨rfl, hRel0⟩
                          | (exfalso; omega)
                          | (exfalso; simp (disch := omega) only [Int32.lt_iff_toInt_lt, Int32.le_iff_toInt_le, ← Int32.toInt_inj, Int32.reduceToInt, nI_toInt] at c1RephasMonth c5RephasMonth m2MDisIn m5MDisIn m2MDisIn_2 m5MDisIn_2 m2MDisIn_3 m5MDisIn_3 m24; done)
                          | (exfalso; simp (disch := omega) only [Int32.lt_iff_toInt_lt, Int32.le_iff_toInt_le, ← Int32.toInt_inj, Int32.reduceToInt, nI_toInt] at c1RephasMonth c5RephasMonth m2MDisIn m5MDisIn m2MDisIn_2 m5MDisIn_2 m2MDisIn_3 m5MDisIn_3 m24; omega)
        · refine jr_ic rfl ?_
          refine jr_goto rfl ?_
          refine jr_zret rfl rfl rfl (Nat.zero_le _) (Nat.zero_le _) ?_
          refine jr_if_ne rfl (fun _ => ?_) (fun z => absurd z (by decide))
          refine jr_aload rfl rfl ?_
          refine jr_getR rfl rfl rfl rfl (Or.inl rfl) ?_
          refine jr_iload rfl rfl ?_
          refine jr_iload rfl rfl ?_
          refine jr_iload rfl rfl ?_
          refine jr_aload rfl rfl ?_
          refine jr_getI rfl rfl ?_
          refine jr_cv4 (mc' := 0) (ms' := 0) rfl jm_Led_write_n jm_Led_write_f rfl rfl rfl rfl rfl rfl rfl (Nat.zero_le _) (Nat.zero_le _) ?_
          show jx_W (jm_Led_write, _, _, _, _, _, _) _ 0 0 0 [some _, some _, some _, some _, some _] [] _
          refine jr_iload rfl rfl ?_
          refine jr_if_lt rfl (fun c1Ledwrite => ?_) (fun c1Ledwrite => ?_)
          · refine jr_ic rfl ?_
            refine jr_iret rfl rfl (Nat.zero_le _) (Nat.zero_le _) ?_
            refine jr_iret rfl rfl (Nat.zero_le _) (Nat.zero_le _) ?_
            show jx_W (jm_MD_ledger, d + 40, 0, 0, false, 1, _) _ 0 0 0 [some _, some _, some _, some _] [] _
            refine jr_iload rfl rfl ?_
            refine jr_ic rfl ?_
            refine jr_ic rfl ?_
            refine jr_cs3 (mc' := 0) (ms' := 0) rfl jm_MD_isIn_n jm_MD_isIn_f rfl rfl rfl rfl rfl (Nat.zero_le _) (Nat.zero_le _) ?_
            show jx_W (jm_MD_isIn, _, _, _, _, _, _) _ 0 0 0 [some _, some _, some _] [] _
            refine jr_iload rfl rfl ?_
            refine jr_iload rfl rfl ?_
            refine jr_icmp_lt rfl (fun m2MDisIn => ?_) (fun m2MDisIn => ?_)
            · refine jr_ic rfl ?_
              refine jr_zret rfl rfl rfl (Nat.zero_le _) (Nat.zero_le _) ?_
              refine jr_if_eq rfl (fun _ => ?_) (fun z => absurd (by decide) z)
              refine jr_ic rfl ?_
              refine jr_iret rfl rfl (Nat.zero_le _) (Nat.zero_le _) ?_
              first
                | exact ⟨rfl, hRel0⟩
                | (exfalso; omega)
                | (exfalso; simp (disch := omega) only [Int32.lt_iff_toInt_lt, Int32.le_iff_toInt_le, ← Int32.toInt_inj, Int32.reduceToInt, nI_toInt] at c1RephasMonth c5RephasMonth c1Ledwrite m2MDisIn; done)
                | (exfalso; simp (disch := omega) only [Int32.lt_iff_toInt_lt, Int32.le_iff_toInt_le, ← Int32.toInt_inj, Int32.reduceToInt, nI_toInt] at c1RephasMonth c5RephasMonth c1Ledwrite m2MDisIn; omega)
            · refine jr_iload rfl rfl ?_
              refine jr_iload rfl rfl ?_
              refine jr_icmp_gt rfl (fun m5MDisIn => ?_) (fun m5MDisIn => ?_)
              · refine jr_ic rfl ?_
                refine jr_zret rfl rfl rfl (Nat.zero_le _) (Nat.zero_le _) ?_
                refine jr_if_eq rfl (fun _ => ?_) (fun z => absurd (by decide) z)
                refine jr_ic rfl ?_
                refine jr_iret rfl rfl (Nat.zero_le _) (Nat.zero_le _) ?_
                first
                  | exact ⟨rfl, hRel0⟩
                  | (exfalso; omega)
                  | (exfalso; simp (disch := omega) only [Int32.lt_iff_toInt_lt, Int32.le_iff_toInt_le, ← Int32.toInt_inj, Int32.reduceToInt, nI_toInt] at c1RephasMonth c5RephasMonth c1Ledwrite m2MDisIn m5MDisIn; done)
                  | (exfalso; simp (disch := omega) only [Int32.lt_iff_toInt_lt, Int32.le_iff_toInt_le, ← Int32.toInt_inj, Int32.reduceToInt, nI_toInt] at c1RephasMonth c5RephasMonth c1Ledwrite m2MDisIn m5MDisIn; omega)
              · refine jr_ic rfl ?_
                refine jr_goto rfl ?_
                refine jr_zret rfl rfl rfl (Nat.zero_le _) (Nat.zero_le _) ?_
                refine jr_if_eq rfl (fun z => absurd z (by decide)) (fun _ => ?_)
                refine jr_iload rfl rfl ?_
                refine jr_ic rfl ?_
                refine jr_aload rfl rfl ?_
                refine jr_getR rfl rfl rfl rfl (Or.inl rfl) ?_
                refine jr_aload rfl rfl ?_
                refine jr_getI rfl rfl ?_
                refine jr_iald (len := 2) rfl rfl hw.1 (by omega) ?_
                refine jr_ic rfl ?_
                refine jr_isub rfl ?_
                refine jr_cs3 (mc' := 0) (ms' := 0) rfl jm_MD_isIn_n jm_MD_isIn_f rfl rfl rfl rfl rfl (Nat.zero_le _) (Nat.zero_le _) ?_
                show jx_W (jm_MD_isIn, _, _, _, _, _, _) _ 0 0 0 [some _, some _, some _] [] _
                refine jr_iload rfl rfl ?_
                refine jr_iload rfl rfl ?_
                refine jr_icmp_lt rfl (fun m2MDisIn_2 => ?_) (fun m2MDisIn_2 => ?_)
                · refine jr_ic rfl ?_
                  refine jr_zret rfl rfl rfl (Nat.zero_le _) (Nat.zero_le _) ?_
                  refine jr_if_eq rfl (fun _ => ?_) (fun z => absurd (by decide) z)
                  refine jr_ic rfl ?_
                  refine jr_iret rfl rfl (Nat.zero_le _) (Nat.zero_le _) ?_
                  first
                    | exact ⟨rfl, hRel0⟩
                    | (exfalso; omega)
                    | (exfalso; simp (disch := omega) only [Int32.lt_iff_toInt_lt, Int32.le_iff_toInt_le, ← Int32.toInt_inj, Int32.reduceToInt, nI_toInt] at c1RephasMonth c5RephasMonth c1Ledwrite m2MDisIn m5MDisIn m2MDisIn_2; done)
                    | (exfalso; simp (disch := omega) only [Int32.lt_iff_toInt_lt, Int32.le_iff_toInt_le, ← Int32.toInt_inj, Int32.reduceToInt, nI_toInt] at c1RephasMonth c5RephasMonth c1Ledwrite m2MDisIn m5MDisIn m2MDisIn_2; omega)
                · refine jr_iload rfl rfl ?_
                  refine jr_iload rfl rfl ?_
                  refine jr_icmp_gt rfl (fun m5MDisIn_2 => ?_) (fun m5MDisIn_2 => ?_)
                  · refine jr_ic rfl ?_
                    refine jr_zret rfl rfl rfl (Nat.zero_le _) (Nat.zero_le _) ?_
                    refine jr_if_eq rfl (fun _ => ?_) (fun z => absurd (by decide) z)
                    refine jr_ic rfl ?_
                    refine jr_iret rfl rfl (Nat.zero_le _) (Nat.zero_le _) ?_
                    first
                      | exact ⟨rfl, hRel0⟩
                      | (exfalso; omega)
                      | (exfalso; simp (disch := omega) only [Int32.lt_iff_toInt_lt, Int32.le_iff_toInt_le, ← Int32.toInt_inj, Int32.reduceToInt, nI_toInt] at c1RephasMonth c5RephasMonth c1Ledwrite m2MDisIn m5MDisIn m2MDisIn_2 m5MDisIn_2; done)
                      | (exfalso; simp (disch := omega) only [Int32.lt_iff_toInt_lt, Int32.le_iff_toInt_le, ← Int32.toInt_inj, Int32.reduceToInt, nI_toInt] at c1RephasMonth c5RephasMonth c1Ledwrite m2MDisIn m5MDisIn m2MDisIn_2 m5MDisIn_2; omega)
                  · refine jr_ic rfl ?_
                    refine jr_goto rfl ?_
                    refine jr_zret rfl rfl rfl (Nat.zero_le _) (Nat.zero_le _) ?_
                    refine jr_if_eq rfl (fun z => absurd z (by decide)) (fun _ => ?_)
                    refine jr_iload rfl rfl ?_
                    refine jr_ic rfl ?_
                    refine jr_ic rfl ?_
                    refine jr_cs3 (mc' := 0) (ms' := 0) rfl jm_MD_isIn_n jm_MD_isIn_f rfl rfl rfl rfl rfl (Nat.zero_le _) (Nat.zero_le _) ?_
                    show jx_W (jm_MD_isIn, _, _, _, _, _, _) _ 0 0 0 [some _, some _, some _] [] _
                    refine jr_iload rfl rfl ?_
                    refine jr_iload rfl rfl ?_
                    refine jr_icmp_lt rfl (fun m2MDisIn_3 => ?_) (fun m2MDisIn_3 => ?_)
                    · refine jr_ic rfl ?_
                      refine jr_zret rfl rfl rfl (Nat.zero_le _) (Nat.zero_le _) ?_
                      refine jr_if_eq rfl (fun _ => ?_) (fun z => absurd (by decide) z)
                      refine jr_ic rfl ?_
                      refine jr_iret rfl rfl (Nat.zero_le _) (Nat.zero_le _) ?_
                      first
                        | exact ⟨rfl, hRel0⟩
                        | (exfalso; omega)
                        | (exfalso; simp (disch := omega) only [Int32.lt_iff_toInt_lt, Int32.le_iff_toInt_le, ← Int32.toInt_inj, Int32.reduceToInt, nI_toInt] at c1RephasMonth c5RephasMonth c1Ledwrite m2MDisIn m5MDisIn m2MDisIn_2 m5MDisIn_2 m2MDisIn_3; done)
                        | (exfalso; simp (disch := omega) only [Int32.lt_iff_toInt_lt, Int32.le_iff_toInt_le, ← Int32.toInt_inj, Int32.reduceToInt, nI_toInt] at c1RephasMonth c5RephasMonth c1Ledwrite m2MDisIn m5MDisIn m2MDisIn_2 m5MDisIn_2 m2MDisIn_3; omega)
                    · refine jr_iload rfl rfl ?_
                      refine jr_iload rfl rfl ?_
                      refine jr_icmp_gt rfl (fun m5MDisIn_3 => ?_) (fun m5MDisIn_3 => ?_)
                      · refine jr_ic rfl ?_
                        refine jr_zret rfl rfl rfl (Nat.zero_le _) (Nat.zero_le _) ?_
                        refine jr_if_eq rfl (fun _ => ?_) (fun z => absurd (by decide) z)
                        refine jr_ic rfl ?_
                        refine jr_iret rfl rfl (Nat.zero_le _) (Nat.zero_le _) ?_
                        first
                          | exact ⟨rfl, hRel0⟩
                          | (exfalso; omega)
                          | (exfalso; simp (disch := omega) only [Int32.lt_iff_toInt_lt, Int32.le_iff_toInt_le, ← Int32.toInt_inj, Int32.reduceToInt, nI_toInt] at c1RephasMonth c5RephasMonth c1Ledwrite m2MDisIn m5MDisIn m2MDisIn_2 m5MDisIn_2 m2MDisIn_3 m5MDisIn_3; done)
                          | (exfalso; simp (disch := omega) only [Int32.lt_iff_toInt_lt, Int32.le_iff_toInt_le, ← Int32.toInt_inj, Int32.reduceToInt, nI_toInt] at c1RephasMonth c5RephasMonth c1Ledwrite m2MDisIn m5MDisIn m2MDisIn_2 m5MDisIn_2 m2MDisIn_3 m5MDisIn_3; omega)
                      · refine jr_ic rfl ?_
                        refine jr_goto rfl ?_
                        refine jr_zret rfl rfl rfl (Nat.zero_le _) (Nat.zero_le _) ?_
                        refine jr_if_eq rfl (fun z => absurd z (by decide)) (fun _ => ?_)
                        refine jr_aload rfl rfl ?_
                        refine jr_getI rfl rfl ?_
                        refine jr_ic rfl ?_
                        refine jr_icmp_ne rfl (fun m24 => ?_) (fun m24 => ?_)
                        · first
                            | (exfalso; omega)
                            | (exfalso; simp (disch := omega) only [Int32.lt_iff_toInt_lt, Int32.le_iff_toInt_le, ← Int32.toInt_inj, Int32.reduceToInt, nI_toInt] at c1RephasMonth c5RephasMonth c1Ledwrite m2MDisIn m5MDisIn m2MDisIn_2 m5MDisIn_2 m2MDisIn_3 m5MDisIn_3 m24; done)
                            | (exfalso; simp (disch := omega) only [Int32.lt_iff_toInt_lt, Int32.le_iff_toInt_le, ← Int32.toInt_inj, Int32.reduceToInt, nI_toInt] at c1RephasMonth c5RephasMonth c1Ledwrite m2MDisIn m5MDisIn m2MDisIn_2 m5MDisIn_2 m2MDisIn_3 m5MDisIn_3 m24; omega)
                        · refine jr_ic rfl ?_
                          refine jr_iret rfl rfl (Nat.zero_le _) (Nat.zero_le _) ?_
                          first
                            | exact ⟨rfl, hRel0⟩
                            | (exfalso; omega)
                            | (exfalso; simp (disch := omega) only [Int32.lt_iff_toInt_lt, Int32.le_iff_toInt_le, ← Int32.toInt_inj, Int32.reduceToInt, nI_toInt] at c1RephasMonth c5RephasMonth c1Ledwrite m2MDisIn m5MDisIn m2MDisIn_2 m5MDisIn_2 m2MDisIn_3 m5MDisIn_3 m24; done)
                            | (exfalso; simp (disch := omega) only [Int32.lt_iff_toInt_lt, Int32.le_iff_toInt_le, ← Int32.toInt_inj, Int32.reduceToInt, nI_toInt] at c1RephasMonth c5RephasMonth c1Ledwrite m2MDisIn m5MDisIn m2MDisIn_2 m5MDisIn_2 m2MDisIn_3 m5MDisIn_3 m24; omega)
          · refine jr_iload rfl rfl ?_
            refine jr_ic rfl ?_
            refine jr_icmp_gt rfl (fun c4Ledwrite => ?_) (fun c4Ledwrite => ?_)
            · refine jr_ic rfl ?_
              refine jr_iret rfl rfl (Nat.zero_le _) (Nat.zero_le _) ?_
              refine jr_iret rfl rfl (Nat.zero_le _) (Nat.zero_le _) ?_
              show jx_W (jm_MD_ledger, d + 40, 0, 0, false, 1, _) _ 0 0 0 [some _, some _, some _, some _] [] _
              refine jr_iload rfl rfl ?_
              refine jr_ic rfl ?_
              refine jr_ic rfl ?_
              refine jr_cs3 (mc' := 0) (ms' := 0) rfl jm_MD_isIn_n jm_MD_isIn_f rfl rfl rfl rfl rfl (Nat.zero_le _) (Nat.zero_le _) ?_
              show jx_W (jm_MD_isIn, _, _, _, _, _, _) _ 0 0 0 [some _, some _, some _] [] _
              refine jr_iload rfl rfl ?_
              refine jr_iload rfl rfl ?_
              refine jr_icmp_lt rfl (fun m2MDisIn => ?_) (fun m2MDisIn => ?_)
              · refine jr_ic rfl ?_
                refine jr_zret rfl rfl rfl (Nat.zero_le _) (Nat.zero_le _) ?_
                refine jr_if_eq rfl (fun _ => ?_) (fun z => absurd (by decide) z)
                refine jr_ic rfl ?_
                refine jr_iret rfl rfl (Nat.zero_le _) (Nat.zero_le _) ?_
                first
                  | exact ⟨rfl, hRel0⟩
                  | (exfalso; omega)
                  | (exfalso; simp (disch := omega) only [Int32.lt_iff_toInt_lt, Int32.le_iff_toInt_le, ← Int32.toInt_inj, Int32.reduceToInt, nI_toInt] at c1RephasMonth c5RephasMonth c1Ledwrite c4Ledwrite m2MDisIn; done)
                  | (exfalso; simp (disch := omega) only [Int32.lt_iff_toInt_lt, Int32.le_iff_toInt_le, ← Int32.toInt_inj, Int32.reduceToInt, nI_toInt] at c1RephasMonth c5RephasMonth c1Ledwrite c4Ledwrite m2MDisIn; omega)
              · refine jr_iload rfl rfl ?_
                refine jr_iload rfl rfl ?_
                refine jr_icmp_gt rfl (fun m5MDisIn => ?_) (fun m5MDisIn => ?_)
                · refine jr_ic rfl ?_
                  refine jr_zret rfl rfl rfl (Nat.zero_le _) (Nat.zero_le _) ?_
                  refine jr_if_eq rfl (fun _ => ?_) (fun z => absurd (by decide) z)
                  refine jr_ic rfl ?_
                  refine jr_iret rfl rfl (Nat.zero_le _) (Nat.zero_le _) ?_
                  first
                    | exact ⟨rfl, hRel0⟩
                    | (exfalso; omega)
                    | (exfalso; simp (disch := omega) only [Int32.lt_iff_toInt_lt, Int32.le_iff_toInt_le, ← Int32.toInt_inj, Int32.reduceToInt, nI_toInt] at c1RephasMonth c5RephasMonth c1Ledwrite c4Ledwrite m2MDisIn m5MDisIn; done)
                    | (exfalso; simp (disch := omega) only [Int32.lt_iff_toInt_lt, Int32.le_iff_toInt_le, ← Int32.toInt_inj, Int32.reduceToInt, nI_toInt] at c1RephasMonth c5RephasMonth c1Ledwrite c4Ledwrite m2MDisIn m5MDisIn; omega)
                · refine jr_ic rfl ?_
                  refine jr_goto rfl ?_
                  refine jr_zret rfl rfl rfl (Nat.zero_le _) (Nat.zero_le _) ?_
                  refine jr_if_eq rfl (fun z => absurd z (by decide)) (fun _ => ?_)
                  refine jr_iload rfl rfl ?_
                  refine jr_ic rfl ?_
                  refine jr_aload rfl rfl ?_
                  refine jr_getR rfl rfl rfl rfl (Or.inl rfl) ?_
                  refine jr_aload rfl rfl ?_
                  refine jr_getI rfl rfl ?_
                  refine jr_iald (len := 2) rfl rfl hw.1 (by omega) ?_
                  refine jr_ic rfl ?_
                  refine jr_isub rfl ?_
                  refine jr_cs3 (mc' := 0) (ms' := 0) rfl jm_MD_isIn_n jm_MD_isIn_f rfl rfl rfl rfl rfl (Nat.zero_le _) (Nat.zero_le _) ?_
                  show jx_W (jm_MD_isIn, _, _, _, _, _, _) _ 0 0 0 [some _, some _, some _] [] _
                  refine jr_iload rfl rfl ?_
                  refine jr_iload rfl rfl ?_
                  refine jr_icmp_lt rfl (fun m2MDisIn_2 => ?_) (fun m2MDisIn_2 => ?_)
                  · refine jr_ic rfl ?_
                    refine jr_zret rfl rfl rfl (Nat.zero_le _) (Nat.zero_le _) ?_
                    refine jr_if_eq rfl (fun _ => ?_) (fun z => absurd (by decide) z)
                    refine jr_ic rfl ?_
                    refine jr_iret rfl rfl (Nat.zero_le _) (Nat.zero_le _) ?_
                    first
                      | exact ⟨rfl, hRel0⟩
                      | (exfalso; omega)
                      | (exfalso; simp (disch := omega) only [Int32.lt_iff_toInt_lt, Int32.le_iff_toInt_le, ← Int32.toInt_inj, Int32.reduceToInt, nI_toInt] at c1RephasMonth c5RephasMonth c1Ledwrite c4Ledwrite m2MDisIn m5MDisIn m2MDisIn_2; done)
                      | (exfalso; simp (disch := omega) only [Int32.lt_iff_toInt_lt, Int32.le_iff_toInt_le, ← Int32.toInt_inj, Int32.reduceToInt, nI_toInt] at c1RephasMonth c5RephasMonth c1Ledwrite c4Ledwrite m2MDisIn m5MDisIn m2MDisIn_2; omega)
                  · refine jr_iload rfl rfl ?_
                    refine jr_iload rfl rfl ?_
                    refine jr_icmp_gt rfl (fun m5MDisIn_2 => ?_) (fun m5MDisIn_2 => ?_)
                    · refine jr_ic rfl ?_
                      refine jr_zret rfl rfl rfl (Nat.zero_le _) (Nat.zero_le _) ?_
                      refine jr_if_eq rfl (fun _ => ?_) (fun z => absurd (by decide) z)
                      refine jr_ic rfl ?_
                      refine jr_iret rfl rfl (Nat.zero_le _) (Nat.zero_le _) ?_
                      first
                        | exact ⟨rfl, hRel0⟩
                        | (exfalso; omega)
                        | (exfalso; simp (disch := omega) only [Int32.lt_iff_toInt_lt, Int32.le_iff_toInt_le, ← Int32.toInt_inj, Int32.reduceToInt, nI_toInt] at c1RephasMonth c5RephasMonth c1Ledwrite c4Ledwrite m2MDisIn m5MDisIn m2MDisIn_2 m5MDisIn_2; done)
                        | (exfalso; simp (disch := omega) only [Int32.lt_iff_toInt_lt, Int32.le_iff_toInt_le, ← Int32.toInt_inj, Int32.reduceToInt, nI_toInt] at c1RephasMonth c5RephasMonth c1Ledwrite c4Ledwrite m2MDisIn m5MDisIn m2MDisIn_2 m5MDisIn_2; omega)
                    · refine jr_ic rfl ?_
                      refine jr_goto rfl ?_
                      refine jr_zret rfl rfl rfl (Nat.zero_le _) (Nat.zero_le _) ?_
                      refine jr_if_eq rfl (fun z => absurd z (by decide)) (fun _ => ?_)
                      refine jr_iload rfl rfl ?_
                      refine jr_ic rfl ?_
                      refine jr_ic rfl ?_
                      refine jr_cs3 (mc' := 0) (ms' := 0) rfl jm_MD_isIn_n jm_MD_isIn_f rfl rfl rfl rfl rfl (Nat.zero_le _) (Nat.zero_le _) ?_
                      show jx_W (jm_MD_isIn, _, _, _, _, _, _) _ 0 0 0 [some _, some _, some _] [] _
                      refine jr_iload rfl rfl ?_
                      refine jr_iload rfl rfl ?_
                      refine jr_icmp_lt rfl (fun m2MDisIn_3 => ?_) (fun m2MDisIn_3 => ?_)
                      · refine jr_ic rfl ?_
                        refine jr_zret rfl rfl rfl (Nat.zero_le _) (Nat.zero_le _) ?_
                        refine jr_if_eq rfl (fun _ => ?_) (fun z => absurd (by decide) z)
                        refine jr_ic rfl ?_
                        refine jr_iret rfl rfl (Nat.zero_le _) (Nat.zero_le _) ?_
                        first
                          | exact ⟨rfl, hRel0⟩
                          | (exfalso; omega)
                          | (exfalso; simp (disch := omega) only [Int32.lt_iff_toInt_lt, Int32.le_iff_toInt_le, ← Int32.toInt_inj, Int32.reduceToInt, nI_toInt] at c1RephasMonth c5RephasMonth c1Ledwrite c4Ledwrite m2MDisIn m5MDisIn m2MDisIn_2 m5MDisIn_2 m2MDisIn_3; done)
                          | (exfalso; simp (disch := omega) only [Int32.lt_iff_toInt_lt, Int32.le_iff_toInt_le, ← Int32.toInt_inj, Int32.reduceToInt, nI_toInt] at c1RephasMonth c5RephasMonth c1Ledwrite c4Ledwrite m2MDisIn m5MDisIn m2MDisIn_2 m5MDisIn_2 m2MDisIn_3; omega)
                      · refine jr_iload rfl rfl ?_
                        refine jr_iload rfl rfl ?_
                        refine jr_icmp_gt rfl (fun m5MDisIn_3 => ?_) (fun m5MDisIn_3 => ?_)
                        · refine jr_ic rfl ?_
                          refine jr_zret rfl rfl rfl (Nat.zero_le _) (Nat.zero_le _) ?_
                          refine jr_if_eq rfl (fun _ => ?_) (fun z => absurd (by decide) z)
                          refine jr_ic rfl ?_
                          refine jr_iret rfl rfl (Nat.zero_le _) (Nat.zero_le _) ?_
                          first
                            | exact ⟨rfl, hRel0⟩
                            | (exfalso; omega)
                            | (exfalso; simp (disch := omega) only [Int32.lt_iff_toInt_lt, Int32.le_iff_toInt_le, ← Int32.toInt_inj, Int32.reduceToInt, nI_toInt] at c1RephasMonth c5RephasMonth c1Ledwrite c4Ledwrite m2MDisIn m5MDisIn m2MDisIn_2 m5MDisIn_2 m2MDisIn_3 m5MDisIn_3; done)
                            | (exfalso; simp (disch := omega) only [Int32.lt_iff_toInt_lt, Int32.le_iff_toInt_le, ← Int32.toInt_inj, Int32.reduceToInt, nI_toInt] at c1RephasMonth c5RephasMonth c1Ledwrite c4Ledwrite m2MDisIn m5MDisIn m2MDisIn_2 m5MDisIn_2 m2MDisIn_3 m5MDisIn_3; omega)
                        · refine jr_ic rfl ?_
                          refine jr_goto rfl ?_
                          refine jr_zret rfl rfl rfl (Nat.zero_le _) (Nat.zero_le _) ?_
                          refine jr_if_eq rfl (fun z => absurd z (by decide)) (fun _ => ?_)
                          refine jr_aload rfl rfl ?_
                          refine jr_getI rfl rfl ?_
                          refine jr_ic rfl ?_
                          refine jr_icmp_ne rfl (fun m24 => ?_) (fun m24 => ?_)
                          · first
                              | (exfalso; omega)
                              | (exfalso; simp (disch := omega) only [Int32.lt_iff_toInt_lt, Int32.le_iff_toInt_le, ← Int32.toInt_inj, Int32.reduceToInt, nI_toInt] at c1RephasMonth c5RephasMonth c1Ledwrite c4Ledwrite m2MDisIn m5MDisIn m2MDisIn_2 m5MDisIn_2 m2MDisIn_3 m5MDisIn_3 m24; done)
                              | (exfalso; simp (disch := omega) only [Int32.lt_iff_toInt_lt, Int32.le_iff_toInt_le, ← Int32.toInt_inj, Int32.reduceToInt, nI_toInt] at c1RephasMonth c5RephasMonth c1Ledwrite c4Ledwrite m2MDisIn m5MDisIn m2MDisIn_2 m5MDisIn_2 m2MDisIn_3 m5MDisIn_3 m24; omega)
                          · refine jr_ic rfl ?_
                            refine jr_iret rfl rfl (Nat.zero_le _) (Nat.zero_le _) ?_
                            first
                              | exact ⟨rfl, hRel0⟩
                              | (exfalso; omega)
                              | (exfalso; simp (disch := omega) only [Int32.lt_iff_toInt_lt, Int32.le_iff_toInt_le, ← Int32.toInt_inj, Int32.reduceToInt, nI_toInt] at c1RephasMonth c5RephasMonth c1Ledwrite c4Ledwrite m2MDisIn m5MDisIn m2MDisIn_2 m5MDisIn_2 m2MDisIn_3 m5MDisIn_3 m24; done)
                              | (exfalso; simp (disch := omega) only [Int32.lt_iff_toInt_lt, Int32.le_iff_toInt_le, ← Int32.toInt_inj, Int32.reduceToInt, nI_toInt] at c1RephasMonth c5RephasMonth c1Ledwrite c4Ledwrite m2MDisIn m5MDisIn m2MDisIn_2 m5MDisIn_2 m2MDisIn_3 m5MDisIn_3 m24; omega)
            · refine jr_iload rfl rfl ?_
              refine jr_ic rfl ?_
              refine jr_icmp_lt rfl (fun c7Ledwrite => ?_) (fun c7Ledwrite => ?_)
              · refine jr_ic rfl ?_
                refine jr_iret rfl rfl (Nat.zero_le _) (Nat.zero_le _) ?_
                refine jr_iret rfl rfl (Nat.zero_le _) (Nat.zero_le _) ?_
                show jx_W (jm_MD_ledger, d + 40, 0, 0, false, 1, _) _ 0 0 0 [some _, some _, some _, some _] [] _
                refine jr_iload rfl rfl ?_
                refine jr_ic rfl ?_
                refine jr_ic rfl ?_
                refine jr_cs3 (mc' := 0) (ms' := 0) rfl jm_MD_isIn_n jm_MD_isIn_f rfl rfl rfl rfl rfl (Nat.zero_le _) (Nat.zero_le _) ?_
                show jx_W (jm_MD_isIn, _, _, _, _, _, _) _ 0 0 0 [some _, some _, some _] [] _
                refine jr_iload rfl rfl ?_
                refine jr_iload rfl rfl ?_
                refine jr_icmp_lt rfl (fun m2MDisIn => ?_) (fun m2MDisIn => ?_)
                · refine jr_ic rfl ?_
                  refine jr_zret rfl rfl rfl (Nat.zero_le _) (Nat.zero_le _) ?_
                  refine jr_if_eq rfl (fun _ => ?_) (fun z => absurd (by decide) z)
                  refine jr_ic rfl ?_
                  refine jr_iret rfl rfl (Nat.zero_le _) (Nat.zero_le _) ?_
                  first
                    | exact ⟨rfl, hRel0⟩
                    | (exfalso; omega)
                    | (exfalso; simp (disch := omega) only [Int32.lt_iff_toInt_lt, Int32.le_iff_toInt_le, ← Int32.toInt_inj, Int32.reduceToInt, nI_toInt] at c1RephasMonth c5RephasMonth c1Ledwrite c4Ledwrite c7Ledwrite m2MDisIn; done)
                    | (exfalso; simp (disch := omega) only [Int32.lt_iff_toInt_lt, Int32.le_iff_toInt_le, ← Int32.toInt_inj, Int32.reduceToInt, nI_toInt] at c1RephasMonth c5RephasMonth c1Ledwrite c4Ledwrite c7Ledwrite m2MDisIn; omega)
                · refine jr_iload rfl rfl ?_
                  refine jr_iload rfl rfl ?_
                  refine jr_icmp_gt rfl (fun m5MDisIn => ?_) (fun m5MDisIn => ?_)
                  · refine jr_ic rfl ?_
                    refine jr_zret rfl rfl rfl (Nat.zero_le _) (Nat.zero_le _) ?_
                    refine jr_if_eq rfl (fun _ => ?_) (fun z => absurd (by decide) z)
                    refine jr_ic rfl ?_
                    refine jr_iret rfl rfl (Nat.zero_le _) (Nat.zero_le _) ?_
                    first
                      | exact ⟨rfl, hRel0⟩
                      | (exfalso; omega)
                      | (exfalso; simp (disch := omega) only [Int32.lt_iff_toInt_lt, Int32.le_iff_toInt_le, ← Int32.toInt_inj, Int32.reduceToInt, nI_toInt] at c1RephasMonth c5RephasMonth c1Ledwrite c4Ledwrite c7Ledwrite m2MDisIn m5MDisIn; done)
                      | (exfalso; simp (disch := omega) only [Int32.lt_iff_toInt_lt, Int32.le_iff_toInt_le, ← Int32.toInt_inj, Int32.reduceToInt, nI_toInt] at c1RephasMonth c5RephasMonth c1Ledwrite c4Ledwrite c7Ledwrite m2MDisIn m5MDisIn; omega)
                  · refine jr_ic rfl ?_
                    refine jr_goto rfl ?_
                    refine jr_zret rfl rfl rfl (Nat.zero_le _) (Nat.zero_le _) ?_
                    refine jr_if_eq rfl (fun z => absurd z (by decide)) (fun _ => ?_)
                    refine jr_iload rfl rfl ?_
                    refine jr_ic rfl ?_
                    refine jr_aload rfl rfl ?_
                    refine jr_getR rfl rfl rfl rfl (Or.inl rfl) ?_
                    refine jr_aload rfl rfl ?_
                    refine jr_getI rfl rfl ?_
                    refine jr_iald (len := 2) rfl rfl hw.1 (by omega) ?_
                    refine jr_ic rfl ?_
                    refine jr_isub rfl ?_
                    refine jr_cs3 (mc' := 0) (ms' := 0) rfl jm_MD_isIn_n jm_MD_isIn_f rfl rfl rfl rfl rfl (Nat.zero_le _) (Nat.zero_le _) ?_
                    show jx_W (jm_MD_isIn, _, _, _, _, _, _) _ 0 0 0 [some _, some _, some _] [] _
                    refine jr_iload rfl rfl ?_
                    refine jr_iload rfl rfl ?_
                    refine jr_icmp_lt rfl (fun m2MDisIn_2 => ?_) (fun m2MDisIn_2 => ?_)
                    · refine jr_ic rfl ?_
                      refine jr_zret rfl rfl rfl (Nat.zero_le _) (Nat.zero_le _) ?_
                      refine jr_if_eq rfl (fun _ => ?_) (fun z => absurd (by decide) z)
                      refine jr_ic rfl ?_
                      refine jr_iret rfl rfl (Nat.zero_le _) (Nat.zero_le _) ?_
                      first
                        | exact ⟨rfl, hRel0⟩
                        | (exfalso; omega)
                        | (exfalso; simp (disch := omega) only [Int32.lt_iff_toInt_lt, Int32.le_iff_toInt_le, ← Int32.toInt_inj, Int32.reduceToInt, nI_toInt] at c1RephasMonth c5RephasMonth c1Ledwrite c4Ledwrite c7Ledwrite m2MDisIn m5MDisIn m2MDisIn_2; done)
                        | (exfalso; simp (disch := omega) only [Int32.lt_iff_toInt_lt, Int32.le_iff_toInt_le, ← Int32.toInt_inj, Int32.reduceToInt, nI_toInt] at c1RephasMonth c5RephasMonth c1Ledwrite c4Ledwrite c7Ledwrite m2MDisIn m5MDisIn m2MDisIn_2; omega)
                    · refine jr_iload rfl rfl ?_
                      refine jr_iload rfl rfl ?_
                      refine jr_icmp_gt rfl (fun m5MDisIn_2 => ?_) (fun m5MDisIn_2 => ?_)
                      · refine jr_ic rfl ?_
                        refine jr_zret rfl rfl rfl (Nat.zero_le _) (Nat.zero_le _) ?_
                        refine jr_if_eq rfl (fun _ => ?_) (fun z => absurd (by decide) z)
                        refine jr_ic rfl ?_
                        refine jr_iret rfl rfl (Nat.zero_le _) (Nat.zero_le _) ?_
                        first
                          | exact ⟨rfl, hRel0⟩
                          | (exfalso; omega)
                          | (exfalso; simp (disch := omega) only [Int32.lt_iff_toInt_lt, Int32.le_iff_toInt_le, ← Int32.toInt_inj, Int32.reduceToInt, nI_toInt] at c1RephasMonth c5RephasMonth c1Ledwrite c4Ledwrite c7Ledwrite m2MDisIn m5MDisIn m2MDisIn_2 m5MDisIn_2; done)
                          | (exfalso; simp (disch := omega) only [Int32.lt_iff_toInt_lt, Int32.le_iff_toInt_le, ← Int32.toInt_inj, Int32.reduceToInt, nI_toInt] at c1RephasMonth c5RephasMonth c1Ledwrite c4Ledwrite c7Ledwrite m2MDisIn m5MDisIn m2MDisIn_2 m5MDisIn_2; omega)
                      · refine jr_ic rfl ?_
                        refine jr_goto rfl ?_
                        refine jr_zret rfl rfl rfl (Nat.zero_le _) (Nat.zero_le _) ?_
                        refine jr_if_eq rfl (fun z => absurd z (by decide)) (fun _ => ?_)
                        refine jr_iload rfl rfl ?_
                        refine jr_ic rfl ?_
                        refine jr_ic rfl ?_
                        refine jr_cs3 (mc' := 0) (ms' := 0) rfl jm_MD_isIn_n jm_MD_isIn_f rfl rfl rfl rfl rfl (Nat.zero_le _) (Nat.zero_le _) ?_
                        show jx_W (jm_MD_isIn, _, _, _, _, _, _) _ 0 0 0 [some _, some _, some _] [] _
                        refine jr_iload rfl rfl ?_
                        refine jr_iload rfl rfl ?_
                        refine jr_icmp_lt rfl (fun m2MDisIn_3 => ?_) (fun m2MDisIn_3 => ?_)
                        · refine jr_ic rfl ?_
                          refine jr_zret rfl rfl rfl (Nat.zero_le _) (Nat.zero_le _) ?_
                          refine jr_if_eq rfl (fun _ => ?_) (fun z => absurd (by decide) z)
                          refine jr_ic rfl ?_
                          refine jr_iret rfl rfl (Nat.zero_le _) (Nat.zero_le _) ?_
                          first
                            | exact ⟨rfl, hRel0⟩
                            | (exfalso; omega)
                            | (exfalso; simp (disch := omega) only [Int32.lt_iff_toInt_lt, Int32.le_iff_toInt_le, ← Int32.toInt_inj, Int32.reduceToInt, nI_toInt] at c1RephasMonth c5RephasMonth c1Ledwrite c4Ledwrite c7Ledwrite m2MDisIn m5MDisIn m2MDisIn_2 m5MDisIn_2 m2MDisIn_3; done)
                            | (exfalso; simp (disch := omega) only [Int32.lt_iff_toInt_lt, Int32.le_iff_toInt_le, ← Int32.toInt_inj, Int32.reduceToInt, nI_toInt] at c1RephasMonth c5RephasMonth c1Ledwrite c4Ledwrite c7Ledwrite m2MDisIn m5MDisIn m2MDisIn_2 m5MDisIn_2 m2MDisIn_3; omega)
                        · refine jr_iload rfl rfl ?_
                          refine jr_iload rfl rfl ?_
                          refine jr_icmp_gt rfl (fun m5MDisIn_3 => ?_) (fun m5MDisIn_3 => ?_)
                          · refine jr_ic rfl ?_
                            refine jr_zret rfl rfl rfl (Nat.zero_le _) (Nat.zero_le _) ?_
                            refine jr_if_eq rfl (fun _ => ?_) (fun z => absurd (by decide) z)
                            refine jr_ic rfl ?_
                            refine jr_iret rfl rfl (Nat.zero_le _) (Nat.zero_le _) ?_
                            first
                              | exact ⟨rfl, hRel0⟩
                              | (exfalso; omega)
                              | (exfalso; simp (disch := omega) only [Int32.lt_iff_toInt_lt, Int32.le_iff_toInt_le, ← Int32.toInt_inj, Int32.reduceToInt, nI_toInt] at c1RephasMonth c5RephasMonth c1Ledwrite c4Ledwrite c7Ledwrite m2MDisIn m5MDisIn m2MDisIn_2 m5MDisIn_2 m2MDisIn_3 m5MDisIn_3; done)
                              | (exfalso; simp (disch := omega) only [Int32.lt_iff_toInt_lt, Int32.le_iff_toInt_le, ← Int32.toInt_inj, Int32.reduceToInt, nI_toInt] at c1RephasMonth c5RephasMonth c1Ledwrite c4Ledwrite c7Ledwrite m2MDisIn m5MDisIn m2MDisIn_2 m5MDisIn_2 m2MDisIn_3 m5MDisIn_3; omega)
                          · refine jr_ic rfl ?_
                            refine jr_goto rfl ?_
                            refine jr_zret rfl rfl rfl (Nat.zero_le _) (Nat.zero_le _) ?_
                            refine jr_if_eq rfl (fun z => absurd z (by decide)) (fun _ => ?_)
                            refine jr_aload rfl rfl ?_
                            refine jr_getI rfl rfl ?_
                            refine jr_ic rfl ?_
                            refine jr_icmp_ne rfl (fun m24 => ?_) (fun m24 => ?_)
                            · first
                                | (exfalso; omega)
                                | (exfalso; simp (disch := omega) only [Int32.lt_iff_toInt_lt, Int32.le_iff_toInt_le, ← Int32.toInt_inj, Int32.reduceToInt, nI_toInt] at c1RephasMonth c5RephasMonth c1Ledwrite c4Ledwrite c7Ledwrite m2MDisIn m5MDisIn m2MDisIn_2 m5MDisIn_2 m2MDisIn_3 m5MDisIn_3 m24; done)
                                | (exfalso; simp (disch := omega) only [Int32.lt_iff_toInt_lt, Int32.le_iff_toInt_le, ← Int32.toInt_inj, Int32.reduceToInt, nI_toInt] at c1RephasMonth c5RephasMonth c1Ledwrite c4Ledwrite c7Ledwrite m2MDisIn m5MDisIn m2MDisIn_2 m5MDisIn_2 m2MDisIn_3 m5MDisIn_3 m24; omega)
                            · refine jr_ic rfl ?_
                              refine jr_iret rfl rfl (Nat.zero_le _) (Nat.zero_le _) ?_
                              first
                                | exact ⟨rfl, hRel0⟩
                                | (exfalso; omega)
                                | (exfalso; simp (disch := omega) only [Int32.lt_iff_toInt_lt, Int32.le_iff_toInt_le, ← Int32.toInt_inj, Int32.reduceToInt, nI_toInt] at c1RephasMonth c5RephasMonth c1Ledwrite c4Ledwrite c7Ledwrite m2MDisIn m5MDisIn m2MDisIn_2 m5MDisIn_2 m2MDisIn_3 m5MDisIn_3 m24; done)
                                | (exfalso; simp (disch := omega) only [Int32.lt_iff_toInt_lt, Int32.le_iff_toInt_le, ← Int32.toInt_inj, Int32.reduceToInt, nI_toInt] at c1RephasMonth c5RephasMonth c1Ledwrite c4Ledwrite c7Ledwrite m2MDisIn m5MDisIn m2MDisIn_2 m5MDisIn_2 m2MDisIn_3 m5MDisIn_3 m24; omega)
              · refine jr_iload rfl rfl ?_
                refine jr_ic rfl ?_
                refine jr_icmp_gt rfl (fun c10Ledwrite => ?_) (fun c10Ledwrite => ?_)
                · refine jr_ic rfl ?_
                  refine jr_iret rfl rfl (Nat.zero_le _) (Nat.zero_le _) ?_
                  refine jr_iret rfl rfl (Nat.zero_le _) (Nat.zero_le _) ?_
                  show jx_W (jm_MD_ledger, d + 40, 0, 0, false, 1, _) _ 0 0 0 [some _, some _, some _, some _] [] _
                  refine jr_iload rfl rfl ?_
                  refine jr_ic rfl ?_
                  refine jr_ic rfl ?_
                  refine jr_cs3 (mc' := 0) (ms' := 0) rfl jm_MD_isIn_n jm_MD_isIn_f rfl rfl rfl rfl rfl (Nat.zero_le _) (Nat.zero_le _) ?_
                  show jx_W (jm_MD_isIn, _, _, _, _, _, _) _ 0 0 0 [some _, some _, some _] [] _
                  refine jr_iload rfl rfl ?_
                  refine jr_iload rfl rfl ?_
                  refine jr_icmp_lt rfl (fun m2MDisIn => ?_) (fun m2MDisIn => ?_)
                  · refine jr_ic rfl ?_
                    refine jr_zret rfl rfl rfl (Nat.zero_le _) (Nat.zero_le _) ?_
                    refine jr_if_eq rfl (fun _ => ?_) (fun z => absurd (by decide) z)
                    refine jr_ic rfl ?_
                    refine jr_iret rfl rfl (Nat.zero_le _) (Nat.zero_le _) ?_
                    first
                      | exact ⟨rfl, hRel0⟩
                      | (exfalso; omega)
                      | (exfalso; simp (disch := omega) only [Int32.lt_iff_toInt_lt, Int32.le_iff_toInt_le, ← Int32.toInt_inj, Int32.reduceToInt, nI_toInt] at c1RephasMonth c5RephasMonth c1Ledwrite c4Ledwrite c7Ledwrite c10Ledwrite m2MDisIn; done)
                      | (exfalso; simp (disch := omega) only [Int32.lt_iff_toInt_lt, Int32.le_iff_toInt_le, ← Int32.toInt_inj, Int32.reduceToInt, nI_toInt] at c1RephasMonth c5RephasMonth c1Ledwrite c4Ledwrite c7Ledwrite c10Ledwrite m2MDisIn; omega)
                  · refine jr_iload rfl rfl ?_
                    refine jr_iload rfl rfl ?_
                    refine jr_icmp_gt rfl (fun m5MDisIn => ?_) (fun m5MDisIn => ?_)
                    · refine jr_ic rfl ?_
                      refine jr_zret rfl rfl rfl (Nat.zero_le _) (Nat.zero_le _) ?_
                      refine jr_if_eq rfl (fun _ => ?_) (fun z => absurd (by decide) z)
                      refine jr_ic rfl ?_
                      refine jr_iret rfl rfl (Nat.zero_le _) (Nat.zero_le _) ?_
                      first
                        | exact ⟨rfl, hRel0⟩
                        | (exfalso; omega)
                        | (exfalso; simp (disch := omega) only [Int32.lt_iff_toInt_lt, Int32.le_iff_toInt_le, ← Int32.toInt_inj, Int32.reduceToInt, nI_toInt] at c1RephasMonth c5RephasMonth c1Ledwrite c4Ledwrite c7Ledwrite c10Ledwrite m2MDisIn m5MDisIn; done)
                        | (exfalso; simp (disch := omega) only [Int32.lt_iff_toInt_lt, Int32.le_iff_toInt_le, ← Int32.toInt_inj, Int32.reduceToInt, nI_toInt] at c1RephasMonth c5RephasMonth c1Ledwrite c4Ledwrite c7Ledwrite c10Ledwrite m2MDisIn m5MDisIn; omega)
                    · refine jr_ic rfl ?_
                      refine jr_goto rfl ?_
                      refine jr_zret rfl rfl rfl (Nat.zero_le _) (Nat.zero_le _) ?_
                      refine jr_if_eq rfl (fun z => absurd z (by decide)) (fun _ => ?_)
                      refine jr_iload rfl rfl ?_
                      refine jr_ic rfl ?_
                      refine jr_aload rfl rfl ?_
                      refine jr_getR rfl rfl rfl rfl (Or.inl rfl) ?_
                      refine jr_aload rfl rfl ?_
                      refine jr_getI rfl rfl ?_
                      refine jr_iald (len := 2) rfl rfl hw.1 (by omega) ?_
                      refine jr_ic rfl ?_
                      refine jr_isub rfl ?_
                      refine jr_cs3 (mc' := 0) (ms' := 0) rfl jm_MD_isIn_n jm_MD_isIn_f rfl rfl rfl rfl rfl (Nat.zero_le _) (Nat.zero_le _) ?_
                      show jx_W (jm_MD_isIn, _, _, _, _, _, _) _ 0 0 0 [some _, some _, some _] [] _
                      refine jr_iload rfl rfl ?_
                      refine jr_iload rfl rfl ?_
                      refine jr_icmp_lt rfl (fun m2MDisIn_2 => ?_) (fun m2MDisIn_2 => ?_)
                      · refine jr_ic rfl ?_
                        refine jr_zret rfl rfl rfl (Nat.zero_le _) (Nat.zero_le _) ?_
                        refine jr_if_eq rfl (fun _ => ?_) (fun z => absurd (by decide) z)
                        refine jr_ic rfl ?_
                        refine jr_iret rfl rfl (Nat.zero_le _) (Nat.zero_le _) ?_
                        first
                          | exact ⟨rfl, hRel0⟩
                          | (exfalso; omega)
                          | (exfalso; simp (disch := omega) only [Int32.lt_iff_toInt_lt, Int32.le_iff_toInt_le, ← Int32.toInt_inj, Int32.reduceToInt, nI_toInt] at c1RephasMonth c5RephasMonth c1Ledwrite c4Ledwrite c7Ledwrite c10Ledwrite m2MDisIn m5MDisIn m2MDisIn_2; done)
                          | (exfalso; simp (disch := omega) only [Int32.lt_iff_toInt_lt, Int32.le_iff_toInt_le, ← Int32.toInt_inj, Int32.reduceToInt, nI_toInt] at c1RephasMonth c5RephasMonth c1Ledwrite c4Ledwrite c7Ledwrite c10Ledwrite m2MDisIn m5MDisIn m2MDisIn_2; omega)
                      · refine jr_iload rfl rfl ?_
                        refine jr_iload rfl rfl ?_
                        refine jr_icmp_gt rfl (fun m5MDisIn_2 => ?_) (fun m5MDisIn_2 => ?_)
                        · refine jr_ic rfl ?_
                          refine jr_zret rfl rfl rfl (Nat.zero_le _) (Nat.zero_le _) ?_
                          refine jr_if_eq rfl (fun _ => ?_) (fun z => absurd (by decide) z)
                          refine jr_ic rfl ?_
                          refine jr_iret rfl rfl (Nat.zero_le _) (Nat.zero_le _) ?_
                          first
                            | exact ⟨rfl, hRel0⟩
                            | (exfalso; omega)
                            | (exfalso; simp (disch := omega) only [Int32.lt_iff_toInt_lt, Int32.le_iff_toInt_le, ← Int32.toInt_inj, Int32.reduceToInt, nI_toInt] at c1RephasMonth c5RephasMonth c1Ledwrite c4Ledwrite c7Ledwrite c10Ledwrite m2MDisIn m5MDisIn m2MDisIn_2 m5MDisIn_2; done)
                            | (exfalso; simp (disch := omega) only [Int32.lt_iff_toInt_lt, Int32.le_iff_toInt_le, ← Int32.toInt_inj, Int32.reduceToInt, nI_toInt] at c1RephasMonth c5RephasMonth c1Ledwrite c4Ledwrite c7Ledwrite c10Ledwrite m2MDisIn m5MDisIn m2MDisIn_2 m5MDisIn_2; omega)
                        · refine jr_ic rfl ?_
                          refine jr_goto rfl ?_
                          refine jr_zret rfl rfl rfl (Nat.zero_le _) (Nat.zero_le _) ?_
                          refine jr_if_eq rfl (fun z => absurd z (by decide)) (fun _ => ?_)
                          refine jr_iload rfl rfl ?_
                          refine jr_ic rfl ?_
                          refine jr_ic rfl ?_
                          refine jr_cs3 (mc' := 0) (ms' := 0) rfl jm_MD_isIn_n jm_MD_isIn_f rfl rfl rfl rfl rfl (Nat.zero_le _) (Nat.zero_le _) ?_
                          show jx_W (jm_MD_isIn, _, _, _, _, _, _) _ 0 0 0 [some _, some _, some _] [] _
                          refine jr_iload rfl rfl ?_
                          refine jr_iload rfl rfl ?_
                          refine jr_icmp_lt rfl (fun m2MDisIn_3 => ?_) (fun m2MDisIn_3 => ?_)
                          · refine jr_ic rfl ?_
                            refine jr_zret rfl rfl rfl (Nat.zero_le _) (Nat.zero_le _) ?_
                            refine jr_if_eq rfl (fun _ => ?_) (fun z => absurd (by decide) z)
                            refine jr_ic rfl ?_
                            refine jr_iret rfl rfl (Nat.zero_le _) (Nat.zero_le _) ?_
                            first
                              | exact ⟨rfl, hRel0⟩
                              | (exfalso; omega)
                              | (exfalso; simp (disch := omega) only [Int32.lt_iff_toInt_lt, Int32.le_iff_toInt_le, ← Int32.toInt_inj, Int32.reduceToInt, nI_toInt] at c1RephasMonth c5RephasMonth c1Ledwrite c4Ledwrite c7Ledwrite c10Ledwrite m2MDisIn m5MDisIn m2MDisIn_2 m5MDisIn_2 m2MDisIn_3; done)
                              | (exfalso; simp (disch := omega) only [Int32.lt_iff_toInt_lt, Int32.le_iff_toInt_le, ← Int32.toInt_inj, Int32.reduceToInt, nI_toInt] at c1RephasMonth c5RephasMonth c1Ledwrite c4Ledwrite c7Ledwrite c10Ledwrite m2MDisIn m5MDisIn m2MDisIn_2 m5MDisIn_2 m2MDisIn_3; omega)
                          · refine jr_iload rfl rfl ?_
                            refine jr_iload rfl rfl ?_
                            refine jr_icmp_gt rfl (fun m5MDisIn_3 => ?_) (fun m5MDisIn_3 => ?_)
                            · refine jr_ic rfl ?_
                              refine jr_zret rfl rfl rfl (Nat.zero_le _) (Nat.zero_le _) ?_
                              refine jr_if_eq rfl (fun _ => ?_) (fun z => absurd (by decide) z)
                              refine jr_ic rfl ?_
                              refine jr_iret rfl rfl (Nat.zero_le _) (Nat.zero_le _) ?_
                              first
                                | exact ⟨rfl, hRel0⟩
                                | (exfalso; omega)
                                | (exfalso; simp (disch := omega) only [Int32.lt_iff_toInt_lt, Int32.le_iff_toInt_le, ← Int32.toInt_inj, Int32.reduceToInt, nI_toInt] at c1RephasMonth c5RephasMonth c1Ledwrite c4Ledwrite c7Ledwrite c10Ledwrite m2MDisIn m5MDisIn m2MDisIn_2 m5MDisIn_2 m2MDisIn_3 m5MDisIn_3; done)
                                | (exfalso; simp (disch := omega) only [Int32.lt_iff_toInt_lt, Int32.le_iff_toInt_le, ← Int32.toInt_inj, Int32.reduceToInt, nI_toInt] at c1RephasMonth c5RephasMonth c1Ledwrite c4Ledwrite c7Ledwrite c10Ledwrite m2MDisIn m5MDisIn m2MDisIn_2 m5MDisIn_2 m2MDisIn_3 m5MDisIn_3; omega)
                            · refine jr_ic rfl ?_
                              refine jr_goto rfl ?_
                              refine jr_zret rfl rfl rfl (Nat.zero_le _) (Nat.zero_le _) ?_
                              refine jr_if_eq rfl (fun z => absurd z (by decide)) (fun _ => ?_)
                              refine jr_aload rfl rfl ?_
                              refine jr_getI rfl rfl ?_
                              refine jr_ic rfl ?_
                              refine jr_icmp_ne rfl (fun m24 => ?_) (fun m24 => ?_)
                              · first
                                  | (exfalso; omega)
                                  | (exfalso; simp (disch := omega) only [Int32.lt_iff_toInt_lt, Int32.le_iff_toInt_le, ← Int32.toInt_inj, Int32.reduceToInt, nI_toInt] at c1RephasMonth c5RephasMonth c1Ledwrite c4Ledwrite c7Ledwrite c10Ledwrite m2MDisIn m5MDisIn m2MDisIn_2 m5MDisIn_2 m2MDisIn_3 m5MDisIn_3 m24; done)
                                  | (exfalso; simp (disch := omega) only [Int32.lt_iff_toInt_lt, Int32.le_iff_toInt_le, ← Int32.toInt_inj, Int32.reduceToInt, nI_toInt] at c1RephasMonth c5RephasMonth c1Ledwrite c4Ledwrite c7Ledwrite c10Ledwrite m2MDisIn m5MDisIn m2MDisIn_2 m5MDisIn_2 m2MDisIn_3 m5MDisIn_3 m24; omega)
                              · refine jr_ic rfl ?_
                                refine jr_iret rfl rfl (Nat.zero_le _) (Nat.zero_le _) ?_
                                first
                                  | exact ⟨rfl, hRel0⟩
                                  | (exfalso; omega)
                                  | (exfalso; simp (disch := omega) only [Int32.lt_iff_toInt_lt, Int32.le_iff_toInt_le, ← Int32.toInt_inj, Int32.reduceToInt, nI_toInt] at c1RephasMonth c5RephasMonth c1Ledwrite c4Ledwrite c7Ledwrite c10Ledwrite m2MDisIn m5MDisIn m2MDisIn_2 m5MDisIn_2 m2MDisIn_3 m5MDisIn_3 m24; done)
                                  | (exfalso; simp (disch := omega) only [Int32.lt_iff_toInt_lt, Int32.le_iff_toInt_le, ← Int32.toInt_inj, Int32.reduceToInt, nI_toInt] at c1RephasMonth c5RephasMonth c1Ledwrite c4Ledwrite c7Ledwrite c10Ledwrite m2MDisIn m5MDisIn m2MDisIn_2 m5MDisIn_2 m2MDisIn_3 m5MDisIn_3 m24; omega)
                · refine jr_aload rfl rfl ?_
                  refine jr_getI rfl rfl ?_
                  refine jr_ic rfl ?_
                  refine jr_icmp_lt rfl (fun c14Ledwrite => ?_) (fun c14Ledwrite => ?_)
                  · first
                      | (exfalso; omega)
                      | (exfalso; simp (disch := omega) only [Int32.lt_iff_toInt_lt, Int32.le_iff_toInt_le, ← Int32.toInt_inj, Int32.reduceToInt, nI_toInt] at c1RephasMonth c5RephasMonth c1Ledwrite c4Ledwrite c7Ledwrite c10Ledwrite c14Ledwrite; done)
                      | (exfalso; simp (disch := omega) only [Int32.lt_iff_toInt_lt, Int32.le_iff_toInt_le, ← Int32.toInt_inj, Int32.reduceToInt, nI_toInt] at c1RephasMonth c5RephasMonth c1Ledwrite c4Ledwrite c7Ledwrite c10Ledwrite c14Ledwrite; omega)
                  · refine jr_ic rfl ?_
                    refine jr_iret rfl rfl (Nat.zero_le _) (Nat.zero_le _) ?_
                    refine jr_iret rfl rfl (Nat.zero_le _) (Nat.zero_le _) ?_
                    show jx_W (jm_MD_ledger, d + 40, 0, 0, false, 1, _) _ 0 0 0 [some _, some _, some _, some _] [] _
                    refine jr_iload rfl rfl ?_
                    refine jr_ic rfl ?_
                    refine jr_ic rfl ?_
                    refine jr_cs3 (mc' := 0) (ms' := 0) rfl jm_MD_isIn_n jm_MD_isIn_f rfl rfl rfl rfl rfl (Nat.zero_le _) (Nat.zero_le _) ?_
                    show jx_W (jm_MD_isIn, _, _, _, _, _, _) _ 0 0 0 [some _, some _, some _] [] _
                    refine jr_iload rfl rfl ?_
                    refine jr_iload rfl rfl ?_
                    refine jr_icmp_lt rfl (fun m2MDisIn => ?_) (fun m2MDisIn => ?_)
                    · refine jr_ic rfl ?_
                      refine jr_zret rfl rfl rfl (Nat.zero_le _) (Nat.zero_le _) ?_
                      refine jr_if_eq rfl (fun _ => ?_) (fun z => absurd (by decide) z)
                      refine jr_ic rfl ?_
                      refine jr_iret rfl rfl (Nat.zero_le _) (Nat.zero_le _) ?_
                      first
                        | exact ⟨rfl, hRel0⟩
                        | (exfalso; omega)
                        | (exfalso; simp (disch := omega) only [Int32.lt_iff_toInt_lt, Int32.le_iff_toInt_le, ← Int32.toInt_inj, Int32.reduceToInt, nI_toInt] at c1RephasMonth c5RephasMonth c1Ledwrite c4Ledwrite c7Ledwrite c10Ledwrite c14Ledwrite m2MDisIn; done)
                        | (exfalso; simp (disch := omega) only [Int32.lt_iff_toInt_lt, Int32.le_iff_toInt_le, ← Int32.toInt_inj, Int32.reduceToInt, nI_toInt] at c1RephasMonth c5RephasMonth c1Ledwrite c4Ledwrite c7Ledwrite c10Ledwrite c14Ledwrite m2MDisIn; omega)
                    · refine jr_iload rfl rfl ?_
                      refine jr_iload rfl rfl ?_
                      refine jr_icmp_gt rfl (fun m5MDisIn => ?_) (fun m5MDisIn => ?_)
                      · refine jr_ic rfl ?_
                        refine jr_zret rfl rfl rfl (Nat.zero_le _) (Nat.zero_le _) ?_
                        refine jr_if_eq rfl (fun _ => ?_) (fun z => absurd (by decide) z)
                        refine jr_ic rfl ?_
                        refine jr_iret rfl rfl (Nat.zero_le _) (Nat.zero_le _) ?_
                        first
                          | exact ⟨rfl, hRel0⟩
                          | (exfalso; omega)
                          | (exfalso; simp (disch := omega) only [Int32.lt_iff_toInt_lt, Int32.le_iff_toInt_le, ← Int32.toInt_inj, Int32.reduceToInt, nI_toInt] at c1RephasMonth c5RephasMonth c1Ledwrite c4Ledwrite c7Ledwrite c10Ledwrite c14Ledwrite m2MDisIn m5MDisIn; done)
                          | (exfalso; simp (disch := omega) only [Int32.lt_iff_toInt_lt, Int32.le_iff_toInt_le, ← Int32.toInt_inj, Int32.reduceToInt, nI_toInt] at c1RephasMonth c5RephasMonth c1Ledwrite c4Ledwrite c7Ledwrite c10Ledwrite c14Ledwrite m2MDisIn m5MDisIn; omega)
                      · refine jr_ic rfl ?_
                        refine jr_goto rfl ?_
                        refine jr_zret rfl rfl rfl (Nat.zero_le _) (Nat.zero_le _) ?_
                        refine jr_if_eq rfl (fun z => absurd z (by decide)) (fun _ => ?_)
                        refine jr_iload rfl rfl ?_
                        refine jr_ic rfl ?_
                        refine jr_aload rfl rfl ?_
                        refine jr_getR rfl rfl rfl rfl (Or.inl rfl) ?_
                        refine jr_aload rfl rfl ?_
                        refine jr_getI rfl rfl ?_
                        refine jr_iald (len := 2) rfl rfl hw.1 (by omega) ?_
                        refine jr_ic rfl ?_
                        refine jr_isub rfl ?_
                        refine jr_cs3 (mc' := 0) (ms' := 0) rfl jm_MD_isIn_n jm_MD_isIn_f rfl rfl rfl rfl rfl (Nat.zero_le _) (Nat.zero_le _) ?_
                        show jx_W (jm_MD_isIn, _, _, _, _, _, _) _ 0 0 0 [some _, some _, some _] [] _
                        refine jr_iload rfl rfl ?_
                        refine jr_iload rfl rfl ?_
                        refine jr_icmp_lt rfl (fun m2MDisIn_2 => ?_) (fun m2MDisIn_2 => ?_)
                        · refine jr_ic rfl ?_
                          refine jr_zret rfl rfl rfl (Nat.zero_le _) (Nat.zero_le _) ?_
                          refine jr_if_eq rfl (fun _ => ?_) (fun z => absurd (by decide) z)
                          refine jr_ic rfl ?_
                          refine jr_iret rfl rfl (Nat.zero_le _) (Nat.zero_le _) ?_
                          first
                            | exact ⟨rfl, hRel0⟩
                            | (exfalso; omega)
                            | (exfalso; simp (disch := omega) only [Int32.lt_iff_toInt_lt, Int32.le_iff_toInt_le, ← Int32.toInt_inj, Int32.reduceToInt, nI_toInt] at c1RephasMonth c5RephasMonth c1Ledwrite c4Ledwrite c7Ledwrite c10Ledwrite c14Ledwrite m2MDisIn m5MDisIn m2MDisIn_2; done)
                            | (exfalso; simp (disch := omega) only [Int32.lt_iff_toInt_lt, Int32.le_iff_toInt_le, ← Int32.toInt_inj, Int32.reduceToInt, nI_toInt] at c1RephasMonth c5RephasMonth c1Ledwrite c4Ledwrite c7Ledwrite c10Ledwrite c14Ledwrite m2MDisIn m5MDisIn m2MDisIn_2; omega)
                        · refine jr_iload rfl rfl ?_
                          refine jr_iload rfl rfl ?_
                          refine jr_icmp_gt rfl (fun m5MDisIn_2 => ?_) (fun m5MDisIn_2 => ?_)
                          · refine jr_ic rfl ?_
                            refine jr_zret rfl rfl rfl (Nat.zero_le _) (Nat.zero_le _) ?_
                            refine jr_if_eq rfl (fun _ => ?_) (fun z => absurd (by decide) z)
                            refine jr_ic rfl ?_
                            refine jr_iret rfl rfl (Nat.zero_le _) (Nat.zero_le _) ?_
                            first
                              | exact ⟨rfl, hRel0⟩
                              | (exfalso; omega)
                              | (exfalso; simp (disch := omega) only [Int32.lt_iff_toInt_lt, Int32.le_iff_toInt_le, ← Int32.toInt_inj, Int32.reduceToInt, nI_toInt] at c1RephasMonth c5RephasMonth c1Ledwrite c4Ledwrite c7Ledwrite c10Ledwrite c14Ledwrite m2MDisIn m5MDisIn m2MDisIn_2 m5MDisIn_2; done)
                              | (exfalso; simp (disch := omega) only [Int32.lt_iff_toInt_lt, Int32.le_iff_toInt_le, ← Int32.toInt_inj, Int32.reduceToInt, nI_toInt] at c1RephasMonth c5RephasMonth c1Ledwrite c4Ledwrite c7Ledwrite c10Ledwrite c14Ledwrite m2MDisIn m5MDisIn m2MDisIn_2 m5MDisIn_2; omega)
                          · refine jr_ic rfl ?_
                            refine jr_goto rfl ?_
                            refine jr_zret rfl rfl rfl (Nat.zero_le _) (Nat.zero_le _) ?_
                            refine jr_if_eq rfl (fun z => absurd z (by decide)) (fun _ => ?_)
                            refine jr_iload rfl rfl ?_
                            refine jr_ic rfl ?_
                            refine jr_ic rfl ?_
                            refine jr_cs3 (mc' := 0) (ms' := 0) rfl jm_MD_isIn_n jm_MD_isIn_f rfl rfl rfl rfl rfl (Nat.zero_le _) (Nat.zero_le _) ?_
                            show jx_W (jm_MD_isIn, _, _, _, _, _, _) _ 0 0 0 [some _, some _, some _] [] _
                            refine jr_iload rfl rfl ?_
                            refine jr_iload rfl rfl ?_
                            refine jr_icmp_lt rfl (fun m2MDisIn_3 => ?_) (fun m2MDisIn_3 => ?_)
                            · refine jr_ic rfl ?_
                              refine jr_zret rfl rfl rfl (Nat.zero_le _) (Nat.zero_le _) ?_
                              refine jr_if_eq rfl (fun _ => ?_) (fun z => absurd (by decide) z)
                              refine jr_ic rfl ?_
                              refine jr_iret rfl rfl (Nat.zero_le _) (Nat.zero_le _) ?_
                              first
                                | exact ⟨rfl, hRel0⟩
                                | (exfalso; omega)
                                | (exfalso; simp (disch := omega) only [Int32.lt_iff_toInt_lt, Int32.le_iff_toInt_le, ← Int32.toInt_inj, Int32.reduceToInt, nI_toInt] at c1RephasMonth c5RephasMonth c1Ledwrite c4Ledwrite c7Ledwrite c10Ledwrite c14Ledwrite m2MDisIn m5MDisIn m2MDisIn_2 m5MDisIn_2 m2MDisIn_3; done)
                                | (exfalso; simp (disch := omega) only [Int32.lt_iff_toInt_lt, Int32.le_iff_toInt_le, ← Int32.toInt_inj, Int32.reduceToInt, nI_toInt] at c1RephasMonth c5RephasMonth c1Ledwrite c4Ledwrite c7Ledwrite c10Ledwrite c14Ledwrite m2MDisIn m5MDisIn m2MDisIn_2 m5MDisIn_2 m2MDisIn_3; omega)
                            · refine jr_iload rfl rfl ?_
                              refine jr_iload rfl rfl ?_
                              refine jr_icmp_gt rfl (fun m5MDisIn_3 => ?_) (fun m5MDisIn_3 => ?_)
                              · refine jr_ic rfl ?_
                                refine jr_zret rfl rfl rfl (Nat.zero_le _) (Nat.zero_le _) ?_
                                refine jr_if_eq rfl (fun _ => ?_) (fun z => absurd (by decide) z)
                                refine jr_ic rfl ?_
                                refine jr_iret rfl rfl (Nat.zero_le _) (Nat.zero_le _) ?_
                                first
                                  | exact ⟨rfl, hRel0⟩
                                  | (exfalso; omega)
                                  | (exfalso; simp (disch := omega) only [Int32.lt_iff_toInt_lt, Int32.le_iff_toInt_le, ← Int32.toInt_inj, Int32.reduceToInt, nI_toInt] at c1RephasMonth c5RephasMonth c1Ledwrite c4Ledwrite c7Ledwrite c10Ledwrite c14Ledwrite m2MDisIn m5MDisIn m2MDisIn_2 m5MDisIn_2 m2MDisIn_3 m5MDisIn_3; done)
                                  | (exfalso; simp (disch := omega) only [Int32.lt_iff_toInt_lt, Int32.le_iff_toInt_le, ← Int32.toInt_inj, Int32.reduceToInt, nI_toInt] at c1RephasMonth c5RephasMonth c1Ledwrite c4Ledwrite c7Ledwrite c10Ledwrite c14Ledwrite m2MDisIn m5MDisIn m2MDisIn_2 m5MDisIn_2 m2MDisIn_3 m5MDisIn_3; omega)
                              · refine jr_ic rfl ?_
                                refine jr_goto rfl ?_
                                refine jr_zret rfl rfl rfl (Nat.zero_le _) (Nat.zero_le _) ?_
                                refine jr_if_eq rfl (fun z => absurd z (by decide)) (fun _ => ?_)
                                refine jr_aload rfl rfl ?_
                                refine jr_getI rfl rfl ?_
                                refine jr_ic rfl ?_
                                refine jr_icmp_ne rfl (fun m24 => ?_) (fun m24 => ?_)
                                · first
                                    | (exfalso; omega)
                                    | (exfalso; simp (disch := omega) only [Int32.lt_iff_toInt_lt, Int32.le_iff_toInt_le, ← Int32.toInt_inj, Int32.reduceToInt, nI_toInt] at c1RephasMonth c5RephasMonth c1Ledwrite c4Ledwrite c7Ledwrite c10Ledwrite c14Ledwrite m2MDisIn m5MDisIn m2MDisIn_2 m5MDisIn_2 m2MDisIn_3 m5MDisIn_3 m24; done)
                                    | (exfalso; simp (disch := omega) only [Int32.lt_iff_toInt_lt, Int32.le_iff_toInt_le, ← Int32.toInt_inj, Int32.reduceToInt, nI_toInt] at c1RephasMonth c5RephasMonth c1Ledwrite c4Ledwrite c7Ledwrite c10Ledwrite c14Ledwrite m2MDisIn m5MDisIn m2MDisIn_2 m5MDisIn_2 m2MDisIn_3 m5MDisIn_3 m24; omega)
                                · refine jr_ic rfl ?_
                                  refine jr_iret rfl rfl (Nat.zero_le _) (Nat.zero_le _) ?_
                                  first
                                    | exact ⟨rfl, hRel0⟩
                                    | (exfalso; omega)
                                    | (exfalso; simp (disch := omega) only [Int32.lt_iff_toInt_lt, Int32.le_iff_toInt_le, ← Int32.toInt_inj, Int32.reduceToInt, nI_toInt] at c1RephasMonth c5RephasMonth c1Ledwrite c4Ledwrite c7Ledwrite c10Ledwrite c14Ledwrite m2MDisIn m5MDisIn m2MDisIn_2 m5MDisIn_2 m2MDisIn_3 m5MDisIn_3 m24; done)
                                    | (exfalso; simp (disch := omega) only [Int32.lt_iff_toInt_lt, Int32.le_iff_toInt_le, ← Int32.toInt_inj, Int32.reduceToInt, nI_toInt] at c1RephasMonth c5RephasMonth c1Ledwrite c4Ledwrite c7Ledwrite c10Ledwrite c14Ledwrite m2MDisIn m5MDisIn m2MDisIn_2 m5MDisIn_2 m2MDisIn_3 m5MDisIn_3 m24; omega)
  · show jx_W (jm_JV_ledger, d + 40, 0, 0, false, 0, _) _ 0 0 0 [some (jv_r 10 0), some (jv_i x), some (jv_i y), some (jv_i z)] [] _
    refine jr_aload rfl rfl ?_
    refine jr_getM rfl rfl rfl rfl hto ?_
    refine jr_iload rfl rfl ?_
    refine jr_cv1 (mc' := 0) (ms' := 0) rfl jm_Rep_hasMonth_n jm_Rep_hasMonth_f rfl rfl rfl rfl rfl rfl rfl (Nat.zero_le _) (Nat.zero_le _) ?_
    show jx_W (jm_Rep_hasMonth, _, _, _, _, _, _) _ 0 0 0 [some _, some _] [] _
    refine jr_iload rfl rfl ?_
    refine jr_if_lt rfl (fun c1RephasMonth => ?_) (fun c1RephasMonth => ?_)
    · refine jr_ic rfl ?_
      refine jr_zret rfl rfl rfl (Nat.zero_le _) (Nat.zero_le _) ?_
      refine jr_if_ne rfl (fun z => absurd (by decide) z) (fun _ => ?_)
      refine jr_ic rfl ?_
      refine jr_iret rfl rfl (Nat.zero_le _) (Nat.zero_le _) ?_
      show jx_W (jm_MD_ledger, d + 40, 0, 0, false, 1, _) _ 0 0 0 [some _, some _, some _, some _] [] _
      refine jr_iload rfl rfl ?_
      refine jr_ic rfl ?_
      refine jr_ic rfl ?_
      refine jr_cs3 (mc' := 0) (ms' := 0) rfl jm_MD_isIn_n jm_MD_isIn_f rfl rfl rfl rfl rfl (Nat.zero_le _) (Nat.zero_le _) ?_
      show jx_W (jm_MD_isIn, _, _, _, _, _, _) _ 0 0 0 [some _, some _, some _] [] _
      refine jr_iload rfl rfl ?_
      refine jr_iload rfl rfl ?_
      refine jr_icmp_lt rfl (fun m2MDisIn => ?_) (fun m2MDisIn => ?_)
      · refine jr_ic rfl ?_
        refine jr_zret rfl rfl rfl (Nat.zero_le _) (Nat.zero_le _) ?_
        refine jr_if_eq rfl (fun _ => ?_) (fun z => absurd (by decide) z)
        refine jr_ic rfl ?_
        refine jr_iret rfl rfl (Nat.zero_le _) (Nat.zero_le _) ?_
        first
          | exact ⟨rfl, hRel0⟩
          | (exfalso; omega)
          | (exfalso; simp (disch := omega) only [Int32.lt_iff_toInt_lt, Int32.le_iff_toInt_le, ← Int32.toInt_inj, Int32.reduceToInt, nI_toInt] at c1RephasMonth m2MDisIn; done)
          | (exfalso; simp (disch := omega) only [Int32.lt_iff_toInt_lt, Int32.le_iff_toInt_le, ← Int32.toInt_inj, Int32.reduceToInt, nI_toInt] at c1RephasMonth m2MDisIn; omega)
      · refine jr_iload rfl rfl ?_
        refine jr_iload rfl rfl ?_
        refine jr_icmp_gt rfl (fun m5MDisIn => ?_) (fun m5MDisIn => ?_)
        · refine jr_ic rfl ?_
          refine jr_zret rfl rfl rfl (Nat.zero_le _) (Nat.zero_le _) ?_
          refine jr_if_eq rfl (fun _ => ?_) (fun z => absurd (by decide) z)
          refine jr_ic rfl ?_
          refine jr_iret rfl rfl (Nat.zero_le _) (Nat.zero_le _) ?_
          first
            | exact ⟨rfl, hRel0⟩
            | (exfalso; omega)
            | (exfalso; simp (disch := omega) only [Int32.lt_iff_toInt_lt, Int32.le_iff_toInt_le, ← Int32.toInt_inj, Int32.reduceToInt, nI_toInt] at c1RephasMonth m2MDisIn m5MDisIn; done)
            | (exfalso; simp (disch := omega) only [Int32.lt_iff_toInt_lt, Int32.le_iff_toInt_le, ← Int32.toInt_inj, Int32.reduceToInt, nI_toInt] at c1RephasMonth m2MDisIn m5MDisIn; omega)
        · refine jr_ic rfl ?_
          refine jr_goto rfl ?_
          refine jr_zret rfl rfl rfl (Nat.zero_le _) (Nat.zero_le _) ?_
          refine jr_if_eq rfl (fun z => absurd z (by decide)) (fun _ => ?_)
          refine jr_iload rfl rfl ?_
          refine jr_ic rfl ?_
          refine jr_aload rfl rfl ?_
          refine jr_getR rfl rfl rfl rfl (Or.inl rfl) ?_
          refine jr_aload rfl rfl ?_
          refine jr_getI rfl rfl ?_
          refine jr_iald (len := 2) rfl rfl hw.1 (by omega) ?_
          refine jr_ic rfl ?_
          refine jr_isub rfl ?_
          refine jr_cs3 (mc' := 0) (ms' := 0) rfl jm_MD_isIn_n jm_MD_isIn_f rfl rfl rfl rfl rfl (Nat.zero_le _) (Nat.zero_le _) ?_
          show jx_W (jm_MD_isIn, _, _, _, _, _, _) _ 0 0 0 [some _, some _, some _] [] _
          refine jr_iload rfl rfl ?_
          refine jr_iload rfl rfl ?_
          refine jr_icmp_lt rfl (fun m2MDisIn_2 => ?_) (fun m2MDisIn_2 => ?_)
          · refine jr_ic rfl ?_
            refine jr_zret rfl rfl rfl (Nat.zero_le _) (Nat.zero_le _) ?_
            refine jr_if_eq rfl (fun _ => ?_) (fun z => absurd (by decide) z)
            refine jr_ic rfl ?_
            refine jr_iret rfl rfl (Nat.zero_le _) (Nat.zero_le _) ?_
            first
              | exact ⟨rfl, hRel0⟩
              | (exfalso; omega)
              | (exfalso; simp (disch := omega) only [Int32.lt_iff_toInt_lt, Int32.le_iff_toInt_le, ← Int32.toInt_inj, Int32.reduceToInt, nI_toInt] at c1RephasMonth m2MDisIn m5MDisIn m2MDisIn_2; done)
              | (exfalso; simp (disch := omega) only [Int32.lt_iff_toInt_lt, Int32.le_iff_toInt_le, ← Int32.toInt_inj, Int32.reduceToInt, nI_toInt] at c1RephasMonth m2MDisIn m5MDisIn m2MDisIn_2; omega)
          · refine jr_iload rfl rfl ?_
            refine jr_iload rfl rfl ?_
            refine jr_icmp_gt rfl (fun m5MDisIn_2 => ?_) (fun m5MDisIn_2 => ?_)
            · refine jr_ic rfl ?_
              refine jr_zret rfl rfl rfl (Nat.zero_le _) (Nat.zero_le _) ?_
              refine jr_if_eq rfl (fun _ => ?_) (fun z => absurd (by decide) z)
              refine jr_ic rfl ?_
              refine jr_iret rfl rfl (Nat.zero_le _) (Nat.zero_le _) ?_
              first
                | exact ⟨rfl, hRel0⟩
                | (exfalso; omega)
                | (exfalso; simp (disch := omega) only [Int32.lt_iff_toInt_lt, Int32.le_iff_toInt_le, ← Int32.toInt_inj, Int32.reduceToInt, nI_toInt] at c1RephasMonth m2MDisIn m5MDisIn m2MDisIn_2 m5MDisIn_2; done)
                | (exfalso; simp (disch := omega) only [Int32.lt_iff_toInt_lt, Int32.le_iff_toInt_le, ← Int32.toInt_inj, Int32.reduceToInt, nI_toInt] at c1RephasMonth m2MDisIn m5MDisIn m2MDisIn_2 m5MDisIn_2; omega)
            · refine jr_ic rfl ?_
              refine jr_goto rfl ?_
              refine jr_zret rfl rfl rfl (Nat.zero_le _) (Nat.zero_le _) ?_
              refine jr_if_eq rfl (fun z => absurd z (by decide)) (fun _ => ?_)
              refine jr_iload rfl rfl ?_
              refine jr_ic rfl ?_
              refine jr_ic rfl ?_
              refine jr_cs3 (mc' := 0) (ms' := 0) rfl jm_MD_isIn_n jm_MD_isIn_f rfl rfl rfl rfl rfl (Nat.zero_le _) (Nat.zero_le _) ?_
              show jx_W (jm_MD_isIn, _, _, _, _, _, _) _ 0 0 0 [some _, some _, some _] [] _
              refine jr_iload rfl rfl ?_
              refine jr_iload rfl rfl ?_
              refine jr_icmp_lt rfl (fun m2MDisIn_3 => ?_) (fun m2MDisIn_3 => ?_)
              · refine jr_ic rfl ?_
                refine jr_zret rfl rfl rfl (Nat.zero_le _) (Nat.zero_le _) ?_
                refine jr_if_eq rfl (fun _ => ?_) (fun z => absurd (by decide) z)
                refine jr_ic rfl ?_
                refine jr_iret rfl rfl (Nat.zero_le _) (Nat.zero_le _) ?_
                first
                  | exact ⟨rfl, hRel0⟩
                  | (exfalso; omega)
                  | (exfalso; simp (disch := omega) only [Int32.lt_iff_toInt_lt, Int32.le_iff_toInt_le, ← Int32.toInt_inj, Int32.reduceToInt, nI_toInt] at c1RephasMonth m2MDisIn m5MDisIn m2MDisIn_2 m5MDisIn_2 m2MDisIn_3; done)
                  | (exfalso; simp (disch := omega) only [Int32.lt_iff_toInt_lt, Int32.le_iff_toInt_le, ← Int32.toInt_inj, Int32.reduceToInt, nI_toInt] at c1RephasMonth m2MDisIn m5MDisIn m2MDisIn_2 m5MDisIn_2 m2MDisIn_3; omega)
              · refine jr_iload rfl rfl ?_
                refine jr_iload rfl rfl ?_
                refine jr_icmp_gt rfl (fun m5MDisIn_3 => ?_) (fun m5MDisIn_3 => ?_)
                · refine jr_ic rfl ?_
                  refine jr_zret rfl rfl rfl (Nat.zero_le _) (Nat.zero_le _) ?_
                  refine jr_if_eq rfl (fun _ => ?_) (fun z => absurd (by decide) z)
                  refine jr_ic rfl ?_
                  refine jr_iret rfl rfl (Nat.zero_le _) (Nat.zero_le _) ?_
                  first
                    | exact ⟨rfl, hRel0⟩
                    | (exfalso; omega)
                    | (exfalso; simp (disch := omega) only [Int32.lt_iff_toInt_lt, Int32.le_iff_toInt_le, ← Int32.toInt_inj, Int32.reduceToInt, nI_toInt] at c1RephasMonth m2MDisIn m5MDisIn m2MDisIn_2 m5MDisIn_2 m2MDisIn_3 m5MDisIn_3; done)
                    | (exfalso; simp (disch := omega) only [Int32.lt_iff_toInt_lt, Int32.le_iff_toInt_le, ← Int32.toInt_inj, Int32.reduceToInt, nI_toInt] at c1RephasMonth m2MDisIn m5MDisIn m2MDisIn_2 m5MDisIn_2 m2MDisIn_3 m5MDisIn_3; omega)
                · refine jr_ic rfl ?_
                  refine jr_goto rfl ?_
                  refine jr_zret rfl rfl rfl (Nat.zero_le _) (Nat.zero_le _) ?_
                  refine jr_if_eq rfl (fun z => absurd z (by decide)) (fun _ => ?_)
                  refine jr_aload rfl rfl ?_
                  refine jr_getI rfl rfl ?_
                  refine jr_ic rfl ?_
                  refine jr_icmp_ne rfl (fun m24 => ?_) (fun m24 => ?_)
                  · first
                      | (exfalso; omega)
                      | (exfalso; simp (disch := omega) only [Int32.lt_iff_toInt_lt, Int32.le_iff_toInt_le, ← Int32.toInt_inj, Int32.reduceToInt, nI_toInt] at c1RephasMonth m2MDisIn m5MDisIn m2MDisIn_2 m5MDisIn_2 m2MDisIn_3 m5MDisIn_3 m24; done)
                      | (exfalso; simp (disch := omega) only [Int32.lt_iff_toInt_lt, Int32.le_iff_toInt_le, ← Int32.toInt_inj, Int32.reduceToInt, nI_toInt] at c1RephasMonth m2MDisIn m5MDisIn m2MDisIn_2 m5MDisIn_2 m2MDisIn_3 m5MDisIn_3 m24; omega)
                  · refine jr_ic rfl ?_
                    refine jr_iret rfl rfl (Nat.zero_le _) (Nat.zero_le _) ?_
                    first
                      | exact ⟨rfl, hRel0⟩
                      | (exfalso; omega)
                      | (exfalso; simp (disch := omega) only [Int32.lt_iff_toInt_lt, Int32.le_iff_toInt_le, ← Int32.toInt_inj, Int32.reduceToInt, nI_toInt] at c1RephasMonth m2MDisIn m5MDisIn m2MDisIn_2 m5MDisIn_2 m2MDisIn_3 m5MDisIn_3 m24; done)
                      | (exfalso; simp (disch := omega) only [Int32.lt_iff_toInt_lt, Int32.le_iff_toInt_le, ← Int32.toInt_inj, Int32.reduceToInt, nI_toInt] at c1RephasMonth m2MDisIn m5MDisIn m2MDisIn_2 m5MDisIn_2 m2MDisIn_3 m5MDisIn_3 m24; omega)
    · refine jr_iload rfl rfl ?_
      refine jr_aload rfl rfl ?_
      refine jr_getI rfl rfl ?_
      refine jr_icmp_ge rfl (fun c5RephasMonth => ?_) (fun c5RephasMonth => ?_)
      · refine jr_ic rfl ?_
        refine jr_zret rfl rfl rfl (Nat.zero_le _) (Nat.zero_le _) ?_
        refine jr_if_ne rfl (fun z => absurd (by decide) z) (fun _ => ?_)
        refine jr_ic rfl ?_
        refine jr_iret rfl rfl (Nat.zero_le _) (Nat.zero_le _) ?_
        show jx_W (jm_MD_ledger, d + 40, 0, 0, false, 1, _) _ 0 0 0 [some _, some _, some _, some _] [] _
        refine jr_iload rfl rfl ?_
        refine jr_ic rfl ?_
        refine jr_ic rfl ?_
        refine jr_cs3 (mc' := 0) (ms' := 0) rfl jm_MD_isIn_n jm_MD_isIn_f rfl rfl rfl rfl rfl (Nat.zero_le _) (Nat.zero_le _) ?_
        show jx_W (jm_MD_isIn, _, _, _, _, _, _) _ 0 0 0 [some _, some _, some _] [] _
        refine jr_iload rfl rfl ?_
        refine jr_iload rfl rfl ?_
        refine jr_icmp_lt rfl (fun m2MDisIn => ?_) (fun m2MDisIn => ?_)
        · refine jr_ic rfl ?_
          refine jr_zret rfl rfl rfl (Nat.zero_le _) (Nat.zero_le _) ?_
          refine jr_if_eq rfl (fun _ => ?_) (fun z => absurd (by decide) z)
          refine jr_ic rfl ?_
          refine jr_iret rfl rfl (Nat.zero_le _) (Nat.zero_le _) ?_
          first
            | exact ⟨rfl, hRel0⟩
            | (exfalso; omega)
            | (exfalso; simp (disch := omega) only [Int32.lt_iff_toInt_lt, Int32.le_iff_toInt_le, ← Int32.toInt_inj, Int32.reduceToInt, nI_toInt] at c1RephasMonth c5RephasMonth m2MDisIn; done)
            | (exfalso; simp (disch := omega) only [Int32.lt_iff_toInt_lt, Int32.le_iff_toInt_le, ← Int32.toInt_inj, Int32.reduceToInt, nI_toInt] at c1RephasMonth c5RephasMonth m2MDisIn; omega)
        · refine jr_iload rfl rfl ?_
          refine jr_iload rfl rfl ?_
          refine jr_icmp_gt rfl (fun m5MDisIn => ?_) (fun m5MDisIn => ?_)
          · refine jr_ic rfl ?_
            refine jr_zret rfl rfl rfl (Nat.zero_le _) (Nat.zero_le _) ?_
            refine jr_if_eq rfl (fun _ => ?_) (fun z => absurd (by decide) z)
            refine jr_ic rfl ?_
            refine jr_iret rfl rfl (Nat.zero_le _) (Nat.zero_le _) ?_
            first
              | exact ⟨rfl, hRel0⟩
              | (exfalso; omega)
              | (exfalso; simp (disch := omega) only [Int32.lt_iff_toInt_lt, Int32.le_iff_toInt_le, ← Int32.toInt_inj, Int32.reduceToInt, nI_toInt] at c1RephasMonth c5RephasMonth m2MDisIn m5MDisIn; done)
              | (exfalso; simp (disch := omega) only [Int32.lt_iff_toInt_lt, Int32.le_iff_toInt_le, ← Int32.toInt_inj, Int32.reduceToInt, nI_toInt] at c1RephasMonth c5RephasMonth m2MDisIn m5MDisIn; omega)
          · refine jr_ic rfl ?_
            refine jr_goto rfl ?_
            refine jr_zret rfl rfl rfl (Nat.zero_le _) (Nat.zero_le _) ?_
            refine jr_if_eq rfl (fun z => absurd z (by decide)) (fun _ => ?_)
            refine jr_iload rfl rfl ?_
            refine jr_ic rfl ?_
            refine jr_aload rfl rfl ?_
            refine jr_getR rfl rfl rfl rfl (Or.inl rfl) ?_
            refine jr_aload rfl rfl ?_
            refine jr_getI rfl rfl ?_
            refine jr_iald (len := 2) rfl rfl hw.1 (by omega) ?_
            refine jr_ic rfl ?_
            refine jr_isub rfl ?_
            refine jr_cs3 (mc' := 0) (ms' := 0) rfl jm_MD_isIn_n jm_MD_isIn_f rfl rfl rfl rfl rfl (Nat.zero_le _) (Nat.zero_le _) ?_
            show jx_W (jm_MD_isIn, _, _, _, _, _, _) _ 0 0 0 [some _, some _, some _] [] _
            refine jr_iload rfl rfl ?_
            refine jr_iload rfl rfl ?_
            refine jr_icmp_lt rfl (fun m2MDisIn_2 => ?_) (fun m2MDisIn_2 => ?_)
            · refine jr_ic rfl ?_
              refine jr_zret rfl rfl rfl (Nat.zero_le _) (Nat.zero_le _) ?_
              refine jr_if_eq rfl (fun _ => ?_) (fun z => absurd (by decide) z)
              refine jr_ic rfl ?_
              refine jr_iret rfl rfl (Nat.zero_le _) (Nat.zero_le _) ?_
              first
                | exact ⟨rfl, hRel0⟩
                | (exfalso; omega)
                | (exfalso; simp (disch := omega) only [Int32.lt_iff_toInt_lt, Int32.le_iff_toInt_le, ← Int32.toInt_inj, Int32.reduceToInt, nI_toInt] at c1RephasMonth c5RephasMonth m2MDisIn m5MDisIn m2MDisIn_2; done)
                | (exfalso; simp (disch := omega) only [Int32.lt_iff_toInt_lt, Int32.le_iff_toInt_le, ← Int32.toInt_inj, Int32.reduceToInt, nI_toInt] at c1RephasMonth c5RephasMonth m2MDisIn m5MDisIn m2MDisIn_2; omega)
            · refine jr_iload rfl rfl ?_
              refine jr_iload rfl rfl ?_
              refine jr_icmp_gt rfl (fun m5MDisIn_2 => ?_) (fun m5MDisIn_2 => ?_)
              · refine jr_ic rfl ?_
                refine jr_zret rfl rfl rfl (Nat.zero_le _) (Nat.zero_le _) ?_
                refine jr_if_eq rfl (fun _ => ?_) (fun z => absurd (by decide) z)
                refine jr_ic rfl ?_
                refine jr_iret rfl rfl (Nat.zero_le _) (Nat.zero_le _) ?_
                first
                  | exact ⟨rfl, hRel0⟩
                  | (exfalso; omega)
                  | (exfalso; simp (disch := omega) only [Int32.lt_iff_toInt_lt, Int32.le_iff_toInt_le, ← Int32.toInt_inj, Int32.reduceToInt, nI_toInt] at c1RephasMonth c5RephasMonth m2MDisIn m5MDisIn m2MDisIn_2 m5MDisIn_2; done)
                  | (exfalso; simp (disch := omega) only [Int32.lt_iff_toInt_lt, Int32.le_iff_toInt_le, ← Int32.toInt_inj, Int32.reduceToInt, nI_toInt] at c1RephasMonth c5RephasMonth m2MDisIn m5MDisIn m2MDisIn_2 m5MDisIn_2; omega)
              · refine jr_ic rfl ?_
                refine jr_goto rfl ?_
                refine jr_zret rfl rfl rfl (Nat.zero_le _) (Nat.zero_le _) ?_
                refine jr_if_eq rfl (fun z => absurd z (by decide)) (fun _ => ?_)
                refine jr_iload rfl rfl ?_
                refine jr_ic rfl ?_
                refine jr_ic rfl ?_
                refine jr_cs3 (mc' := 0) (ms' := 0) rfl jm_MD_isIn_n jm_MD_isIn_f rfl rfl rfl rfl rfl (Nat.zero_le _) (Nat.zero_le _) ?_
                show jx_W (jm_MD_isIn, _, _, _, _, _, _) _ 0 0 0 [some _, some _, some _] [] _
                refine jr_iload rfl rfl ?_
                refine jr_iload rfl rfl ?_
                refine jr_icmp_lt rfl (fun m2MDisIn_3 => ?_) (fun m2MDisIn_3 => ?_)
                · refine jr_ic rfl ?_
                  refine jr_zret rfl rfl rfl (Nat.zero_le _) (Nat.zero_le _) ?_
                  refine jr_if_eq rfl (fun _ => ?_) (fun z => absurd (by decide) z)
                  refine jr_ic rfl ?_
                  refine jr_iret rfl rfl (Nat.zero_le _) (Nat.zero_le _) ?_
                  first
                    | exact ⟨rfl, hRel0⟩
                    | (exfalso; omega)
                    | (exfalso; simp (disch := omega) only [Int32.lt_iff_toInt_lt, Int32.le_iff_toInt_le, ← Int32.toInt_inj, Int32.reduceToInt, nI_toInt] at c1RephasMonth c5RephasMonth m2MDisIn m5MDisIn m2MDisIn_2 m5MDisIn_2 m2MDisIn_3; done)
                    | (exfalso; simp (disch := omega) only [Int32.lt_iff_toInt_lt, Int32.le_iff_toInt_le, ← Int32.toInt_inj, Int32.reduceToInt, nI_toInt] at c1RephasMonth c5RephasMonth m2MDisIn m5MDisIn m2MDisIn_2 m5MDisIn_2 m2MDisIn_3; omega)
                · refine jr_iload rfl rfl ?_
                  refine jr_iload rfl rfl ?_
                  refine jr_icmp_gt rfl (fun m5MDisIn_3 => ?_) (fun m5MDisIn_3 => ?_)
                  · refine jr_ic rfl ?_
                    refine jr_zret rfl rfl rfl (Nat.zero_le _) (Nat.zero_le _) ?_
                    refine jr_if_eq rfl (fun _ => ?_) (fun z => absurd (by decide) z)
                    refine jr_ic rfl ?_
                    refine jr_iret rfl rfl (Nat.zero_le _) (Nat.zero_le _) ?_
                    first
                      | exact ⟨rfl, hRel0⟩
                      | (exfalso; omega)
                      | (exfalso; simp (disch := omega) only [Int32.lt_iff_toInt_lt, Int32.le_iff_toInt_le, ← Int32.toInt_inj, Int32.reduceToInt, nI_toInt] at c1RephasMonth c5RephasMonth m2MDisIn m5MDisIn m2MDisIn_2 m5MDisIn_2 m2MDisIn_3 m5MDisIn_3; done)
                      | (exfalso; simp (disch := omega) only [Int32.lt_iff_toInt_lt, Int32.le_iff_toInt_le, ← Int32.toInt_inj, Int32.reduceToInt, nI_toInt] at c1RephasMonth c5RephasMonth m2MDisIn m5MDisIn m2MDisIn_2 m5MDisIn_2 m2MDisIn_3 m5MDisIn_3; omega)
                  · refine jr_ic rfl ?_
                    refine jr_goto rfl ?_
                    refine jr_zret rfl rfl rfl (Nat.zero_le _) (Nat.zero_le _) ?_
                    refine jr_if_eq rfl (fun z => absurd z (by decide)) (fun _ => ?_)
                    refine jr_aload rfl rfl ?_
                    refine jr_getI rfl rfl ?_
                    refine jr_ic rfl ?_
                    refine jr_icmp_ne rfl (fun m24 => ?_) (fun m24 => ?_)
                    · first
                        | (exfalso; omega)
                        | (exfalso; simp (disch := omega) only [Int32.lt_iff_toInt_lt, Int32.le_iff_toInt_le, ← Int32.toInt_inj, Int32.reduceToInt, nI_toInt] at c1RephasMonth c5RephasMonth m2MDisIn m5MDisIn m2MDisIn_2 m5MDisIn_2 m2MDisIn_3 m5MDisIn_3 m24; done)
                        | (exfalso; simp (disch := omega) only [Int32.lt_iff_toInt_lt, Int32.le_iff_toInt_le, ← Int32.toInt_inj, Int32.reduceToInt, nI_toInt] at c1RephasMonth c5RephasMonth m2MDisIn m5MDisIn m2MDisIn_2 m5MDisIn_2 m2MDisIn_3 m5MDisIn_3 m24; omega)
                    · refine jr_ic rfl ?_
                      refine jr_iret rfl rfl (Nat.zero_le _) (Nat.zero_le _) ?_
                      first
                        | exact ⟨rfl, hRel0⟩
                        | (exfalso; omega)
                        | (exfalso; simp (disch := omega) only [Int32.lt_iff_toInt_lt, Int32.le_iff_toInt_le, ← Int32.toInt_inj, Int32.reduceToInt, nI_toInt] at c1RephasMonth c5RephasMonth m2MDisIn m5MDisIn m2MDisIn_2 m5MDisIn_2 m2MDisIn_3 m5MDisIn_3 m24; done)
                        | (exfalso; simp (disch := omega) only [Int32.lt_iff_toInt_lt, Int32.le_iff_toInt_le, ← Int32.toInt_inj, Int32.reduceToInt, nI_toInt] at c1RephasMonth c5RephasMonth m2MDisIn m5MDisIn m2MDisIn_2 m5MDisIn_2 m2MDisIn_3 m5MDisIn_3 m24; omega)
      · refine jr_ic rfl ?_
        refine jr_goto rfl ?_
        refine jr_zret rfl rfl rfl (Nat.zero_le _) (Nat.zero_le _) ?_
        refine jr_if_ne rfl (fun _ => ?_) (fun z => absurd z (by decide))
        refine jr_aload rfl rfl ?_
        refine jr_getR rfl rfl rfl rfl (Or.inl rfl) ?_
        refine jr_iload rfl rfl ?_
        refine jr_iload rfl rfl ?_
        refine jr_iload rfl rfl ?_
        refine jr_aload rfl rfl ?_
        refine jr_getI rfl rfl ?_
        refine jr_cv4 (mc' := 0) (ms' := 0) rfl jm_Led_write_n jm_Led_write_f rfl rfl rfl rfl rfl rfl rfl (Nat.zero_le _) (Nat.zero_le _) ?_
        show jx_W (jm_Led_write, _, _, _, _, _, _) _ 0 0 0 [some _, some _, some _, some _, some _] [] _
        refine jr_iload rfl rfl ?_
        refine jr_if_lt rfl (fun c1Ledwrite => ?_) (fun c1Ledwrite => ?_)
        · refine jr_ic rfl ?_
          refine jr_iret rfl rfl (Nat.zero_le _) (Nat.zero_le _) ?_
          refine jr_iret rfl rfl (Nat.zero_le _) (Nat.zero_le _) ?_
          show jx_W (jm_MD_ledger, d + 40, 0, 0, false, 1, _) _ 0 0 0 [some _, some _, some _, some _] [] _
          refine jr_iload rfl rfl ?_
          refine jr_ic rfl ?_
          refine jr_ic rfl ?_
          refine jr_cs3 (mc' := 0) (ms' := 0) rfl jm_MD_isIn_n jm_MD_isIn_f rfl rfl rfl rfl rfl (Nat.zero_le _) (Nat.zero_le _) ?_
          show jx_W (jm_MD_isIn, _, _, _, _, _, _) _ 0 0 0 [some _, some _, some _] [] _
          refine jr_iload rfl rfl ?_
          refine jr_iload rfl rfl ?_
          refine jr_icmp_lt rfl (fun m2MDisIn => ?_) (fun m2MDisIn => ?_)
          · refine jr_ic rfl ?_
            refine jr_zret rfl rfl rfl (Nat.zero_le _) (Nat.zero_le _) ?_
            refine jr_if_eq rfl (fun _ => ?_) (fun z => absurd (by decide) z)
            refine jr_ic rfl ?_
            refine jr_iret rfl rfl (Nat.zero_le _) (Nat.zero_le _) ?_
            first
              | exact ⟨rfl, hRel0⟩
              | (exfalso; omega)
              | (exfalso; simp (disch := omega) only [Int32.lt_iff_toInt_lt, Int32.le_iff_toInt_le, ← Int32.toInt_inj, Int32.reduceToInt, nI_toInt] at c1RephasMonth c5RephasMonth c1Ledwrite m2MDisIn; done)
              | (exfalso; simp (disch := omega) only [Int32.lt_iff_toInt_lt, Int32.le_iff_toInt_le, ← Int32.toInt_inj, Int32.reduceToInt, nI_toInt] at c1RephasMonth c5RephasMonth c1Ledwrite m2MDisIn; omega)
          · refine jr_iload rfl rfl ?_
            refine jr_iload rfl rfl ?_
            refine jr_icmp_gt rfl (fun m5MDisIn => ?_) (fun m5MDisIn => ?_)
            · refine jr_ic rfl ?_
              refine jr_zret rfl rfl rfl (Nat.zero_le _) (Nat.zero_le _) ?_
              refine jr_if_eq rfl (fun _ => ?_) (fun z => absurd (by decide) z)
              refine jr_ic rfl ?_
              refine jr_iret rfl rfl (Nat.zero_le _) (Nat.zero_le _) ?_
              first
                | exact ⟨rfl, hRel0⟩
                | (exfalso; omega)
                | (exfalso; simp (disch := omega) only [Int32.lt_iff_toInt_lt, Int32.le_iff_toInt_le, ← Int32.toInt_inj, Int32.reduceToInt, nI_toInt] at c1RephasMonth c5RephasMonth c1Ledwrite m2MDisIn m5MDisIn; done)
                | (exfalso; simp (disch := omega) only [Int32.lt_iff_toInt_lt, Int32.le_iff_toInt_le, ← Int32.toInt_inj, Int32.reduceToInt, nI_toInt] at c1RephasMonth c5RephasMonth c1Ledwrite m2MDisIn m5MDisIn; omega)
            · refine jr_ic rfl ?_
              refine jr_goto rfl ?_
              refine jr_zret rfl rfl rfl (Nat.zero_le _) (Nat.zero_le _) ?_
              refine jr_if_eq rfl (fun z => absurd z (by decide)) (fun _ => ?_)
              refine jr_iload rfl rfl ?_
              refine jr_ic rfl ?_
              refine jr_aload rfl rfl ?_
              refine jr_getR rfl rfl rfl rfl (Or.inl rfl) ?_
              refine jr_aload rfl rfl ?_
              refine jr_getI rfl rfl ?_
              refine jr_iald (len := 2) rfl rfl hw.1 (by omega) ?_
              refine jr_ic rfl ?_
              refine jr_isub rfl ?_
              refine jr_cs3 (mc' := 0) (ms' := 0) rfl jm_MD_isIn_n jm_MD_isIn_f rfl rfl rfl rfl rfl (Nat.zero_le _) (Nat.zero_le _) ?_
              show jx_W (jm_MD_isIn, _, _, _, _, _, _) _ 0 0 0 [some _, some _, some _] [] _
              refine jr_iload rfl rfl ?_
              refine jr_iload rfl rfl ?_
              refine jr_icmp_lt rfl (fun m2MDisIn_2 => ?_) (fun m2MDisIn_2 => ?_)
              · refine jr_ic rfl ?_
                refine jr_zret rfl rfl rfl (Nat.zero_le _) (Nat.zero_le _) ?_
                refine jr_if_eq rfl (fun _ => ?_) (fun z => absurd (by decide) z)
                refine jr_ic rfl ?_
                refine jr_iret rfl rfl (Nat.zero_le _) (Nat.zero_le _) ?_
                first
                  | exact ⟨rfl, hRel0⟩
                  | (exfalso; omega)
                  | (exfalso; simp (disch := omega) only [Int32.lt_iff_toInt_lt, Int32.le_iff_toInt_le, ← Int32.toInt_inj, Int32.reduceToInt, nI_toInt] at c1RephasMonth c5RephasMonth c1Ledwrite m2MDisIn m5MDisIn m2MDisIn_2; done)
                  | (exfalso; simp (disch := omega) only [Int32.lt_iff_toInt_lt, Int32.le_iff_toInt_le, ← Int32.toInt_inj, Int32.reduceToInt, nI_toInt] at c1RephasMonth c5RephasMonth c1Ledwrite m2MDisIn m5MDisIn m2MDisIn_2; omega)
              · refine jr_iload rfl rfl ?_
                refine jr_iload rfl rfl ?_
                refine jr_icmp_gt rfl (fun m5MDisIn_2 => ?_) (fun m5MDisIn_2 => ?_)
                · refine jr_ic rfl ?_
                  refine jr_zret rfl rfl rfl (Nat.zero_le _) (Nat.zero_le _) ?_
                  refine jr_if_eq rfl (fun _ => ?_) (fun z => absurd (by decide) z)
                  refine jr_ic rfl ?_
                  refine jr_iret rfl rfl (Nat.zero_le _) (Nat.zero_le _) ?_
                  first
                    | exact ⟨rfl, hRel0⟩
                    | (exfalso; omega)
                    | (exfalso; simp (disch := omega) only [Int32.lt_iff_toInt_lt, Int32.le_iff_toInt_le, ← Int32.toInt_inj, Int32.reduceToInt, nI_toInt] at c1RephasMonth c5RephasMonth c1Ledwrite m2MDisIn m5MDisIn m2MDisIn_2 m5MDisIn_2; done)
                    | (exfalso; simp (disch := omega) only [Int32.lt_iff_toInt_lt, Int32.le_iff_toInt_le, ← Int32.toInt_inj, Int32.reduceToInt, nI_toInt] at c1RephasMonth c5RephasMonth c1Ledwrite m2MDisIn m5MDisIn m2MDisIn_2 m5MDisIn_2; omega)
                · refine jr_ic rfl ?_
                  refine jr_goto rfl ?_
                  refine jr_zret rfl rfl rfl (Nat.zero_le _) (Nat.zero_le _) ?_
                  refine jr_if_eq rfl (fun z => absurd z (by decide)) (fun _ => ?_)
                  refine jr_iload rfl rfl ?_
                  refine jr_ic rfl ?_
                  refine jr_ic rfl ?_
                  refine jr_cs3 (mc' := 0) (ms' := 0) rfl jm_MD_isIn_n jm_MD_isIn_f rfl rfl rfl rfl rfl (Nat.zero_le _) (Nat.zero_le _) ?_
                  show jx_W (jm_MD_isIn, _, _, _, _, _, _) _ 0 0 0 [some _, some _, some _] [] _
                  refine jr_iload rfl rfl ?_
                  refine jr_iload rfl rfl ?_
                  refine jr_icmp_lt rfl (fun m2MDisIn_3 => ?_) (fun m2MDisIn_3 => ?_)
                  · refine jr_ic rfl ?_
                    refine jr_zret rfl rfl rfl (Nat.zero_le _) (Nat.zero_le _) ?_
                    refine jr_if_eq rfl (fun _ => ?_) (fun z => absurd (by decide) z)
                    refine jr_ic rfl ?_
                    refine jr_iret rfl rfl (Nat.zero_le _) (Nat.zero_le _) ?_
                    first
                      | exact ⟨rfl, hRel0⟩
                      | (exfalso; omega)
                      | (exfalso; simp (disch := omega) only [Int32.lt_iff_toInt_lt, Int32.le_iff_toInt_le, ← Int32.toInt_inj, Int32.reduceToInt, nI_toInt] at c1RephasMonth c5RephasMonth c1Ledwrite m2MDisIn m5MDisIn m2MDisIn_2 m5MDisIn_2 m2MDisIn_3; done)
                      | (exfalso; simp (disch := omega) only [Int32.lt_iff_toInt_lt, Int32.le_iff_toInt_le, ← Int32.toInt_inj, Int32.reduceToInt, nI_toInt] at c1RephasMonth c5RephasMonth c1Ledwrite m2MDisIn m5MDisIn m2MDisIn_2 m5MDisIn_2 m2MDisIn_3; omega)
                  · refine jr_iload rfl rfl ?_
                    refine jr_iload rfl rfl ?_
                    refine jr_icmp_gt rfl (fun m5MDisIn_3 => ?_) (fun m5MDisIn_3 => ?_)
                    · refine jr_ic rfl ?_
                      refine jr_zret rfl rfl rfl (Nat.zero_le _) (Nat.zero_le _) ?_
                      refine jr_if_eq rfl (fun _ => ?_) (fun z => absurd (by decide) z)
                      refine jr_ic rfl ?_
                      refine jr_iret rfl rfl (Nat.zero_le _) (Nat.zero_le _) ?_
                      first
                        | exact ⟨rfl, hRel0⟩
                        | (exfalso; omega)
                        | (exfalso; simp (disch := omega) only [Int32.lt_iff_toInt_lt, Int32.le_iff_toInt_le, ← Int32.toInt_inj, Int32.reduceToInt, nI_toInt] at c1RephasMonth c5RephasMonth c1Ledwrite m2MDisIn m5MDisIn m2MDisIn_2 m5MDisIn_2 m2MDisIn_3 m5MDisIn_3; done)
                        | (exfalso; simp (disch := omega) only [Int32.lt_iff_toInt_lt, Int32.le_iff_toInt_le, ← Int32.toInt_inj, Int32.reduceToInt, nI_toInt] at c1RephasMonth c5RephasMonth c1Ledwrite m2MDisIn m5MDisIn m2MDisIn_2 m5MDisIn_2 m2MDisIn_3 m5MDisIn_3; omega)
                    · refine jr_ic rfl ?_
                      refine jr_goto rfl ?_
                      refine jr_zret rfl rfl rfl (Nat.zero_le _) (Nat.zero_le _) ?_
                      refine jr_if_eq rfl (fun z => absurd z (by decide)) (fun _ => ?_)
                      refine jr_aload rfl rfl ?_
                      refine jr_getI rfl rfl ?_
                      refine jr_ic rfl ?_
                      refine jr_icmp_ne rfl (fun m24 => ?_) (fun m24 => ?_)
                      · first
                          | (exfalso; omega)
                          | (exfalso; simp (disch := omega) only [Int32.lt_iff_toInt_lt, Int32.le_iff_toInt_le, ← Int32.toInt_inj, Int32.reduceToInt, nI_toInt] at c1RephasMonth c5RephasMonth c1Ledwrite m2MDisIn m5MDisIn m2MDisIn_2 m5MDisIn_2 m2MDisIn_3 m5MDisIn_3 m24; done)
                          | (exfalso; simp (disch := omega) only [Int32.lt_iff_toInt_lt, Int32.le_iff_toInt_le, ← Int32.toInt_inj, Int32.reduceToInt, nI_toInt] at c1RephasMonth c5RephasMonth c1Ledwrite m2MDisIn m5MDisIn m2MDisIn_2 m5MDisIn_2 m2MDisIn_3 m5MDisIn_3 m24; omega)
                      · refine jr_ic rfl ?_
                        refine jr_iret rfl rfl (Nat.zero_le _) (Nat.zero_le _) ?_
                        first
                          | exact ⟨rfl, hRel0⟩
                          | (exfalso; omega)
                          | (exfalso; simp (disch := omega) only [Int32.lt_iff_toInt_lt, Int32.le_iff_toInt_le, ← Int32.toInt_inj, Int32.reduceToInt, nI_toInt] at c1RephasMonth c5RephasMonth c1Ledwrite m2MDisIn m5MDisIn m2MDisIn_2 m5MDisIn_2 m2MDisIn_3 m5MDisIn_3 m24; done)
                          | (exfalso; simp (disch := omega) only [Int32.lt_iff_toInt_lt, Int32.le_iff_toInt_le, ← Int32.toInt_inj, Int32.reduceToInt, nI_toInt] at c1RephasMonth c5RephasMonth c1Ledwrite m2MDisIn m5MDisIn m2MDisIn_2 m5MDisIn_2 m2MDisIn_3 m5MDisIn_3 m24; omega)
        · refine jr_iload rfl rfl ?_
          refine jr_ic rfl ?_
          refine jr_icmp_gt rfl (fun c4Ledwrite => ?_) (fun c4Ledwrite => ?_)
          · refine jr_ic rfl ?_
            refine jr_iret rfl rfl (Nat.zero_le _) (Nat.zero_le _) ?_
            refine jr_iret rfl rfl (Nat.zero_le _) (Nat.zero_le _) ?_
            show jx_W (jm_MD_ledger, d + 40, 0, 0, false, 1, _) _ 0 0 0 [some _, some _, some _, some _] [] _
            refine jr_iload rfl rfl ?_
            refine jr_ic rfl ?_
            refine jr_ic rfl ?_
            refine jr_cs3 (mc' := 0) (ms' := 0) rfl jm_MD_isIn_n jm_MD_isIn_f rfl rfl rfl rfl rfl (Nat.zero_le _) (Nat.zero_le _) ?_
            show jx_W (jm_MD_isIn, _, _, _, _, _, _) _ 0 0 0 [some _, some _, some _] [] _
            refine jr_iload rfl rfl ?_
            refine jr_iload rfl rfl ?_
            refine jr_icmp_lt rfl (fun m2MDisIn => ?_) (fun m2MDisIn => ?_)
            · refine jr_ic rfl ?_
              refine jr_zret rfl rfl rfl (Nat.zero_le _) (Nat.zero_le _) ?_
              refine jr_if_eq rfl (fun _ => ?_) (fun z => absurd (by decide) z)
              refine jr_ic rfl ?_
              refine jr_iret rfl rfl (Nat.zero_le _) (Nat.zero_le _) ?_
              first
                | exact ⟨rfl, hRel0⟩
                | (exfalso; omega)
                | (exfalso; simp (disch := omega) only [Int32.lt_iff_toInt_lt, Int32.le_iff_toInt_le, ← Int32.toInt_inj, Int32.reduceToInt, nI_toInt] at c1RephasMonth c5RephasMonth c1Ledwrite c4Ledwrite m2MDisIn; done)
                | (exfalso; simp (disch := omega) only [Int32.lt_iff_toInt_lt, Int32.le_iff_toInt_le, ← Int32.toInt_inj, Int32.reduceToInt, nI_toInt] at c1RephasMonth c5RephasMonth c1Ledwrite c4Ledwrite m2MDisIn; omega)
            · refine jr_iload rfl rfl ?_
              refine jr_iload rfl rfl ?_
              refine jr_icmp_gt rfl (fun m5MDisIn => ?_) (fun m5MDisIn => ?_)
              · refine jr_ic rfl ?_
                refine jr_zret rfl rfl rfl (Nat.zero_le _) (Nat.zero_le _) ?_
                refine jr_if_eq rfl (fun _ => ?_) (fun z => absurd (by decide) z)
                refine jr_ic rfl ?_
                refine jr_iret rfl rfl (Nat.zero_le _) (Nat.zero_le _) ?_
                first
                  | exact ⟨rfl, hRel0⟩
                  | (exfalso; omega)
                  | (exfalso; simp (disch := omega) only [Int32.lt_iff_toInt_lt, Int32.le_iff_toInt_le, ← Int32.toInt_inj, Int32.reduceToInt, nI_toInt] at c1RephasMonth c5RephasMonth c1Ledwrite c4Ledwrite m2MDisIn m5MDisIn; done)
                  | (exfalso; simp (disch := omega) only [Int32.lt_iff_toInt_lt, Int32.le_iff_toInt_le, ← Int32.toInt_inj, Int32.reduceToInt, nI_toInt] at c1RephasMonth c5RephasMonth c1Ledwrite c4Ledwrite m2MDisIn m5MDisIn; omega)
              · refine jr_ic rfl ?_
                refine jr_goto rfl ?_
                refine jr_zret rfl rfl rfl (Nat.zero_le _) (Nat.zero_le _) ?_
                refine jr_if_eq rfl (fun z => absurd z (by decide)) (fun _ => ?_)
                refine jr_iload rfl rfl ?_
                refine jr_ic rfl ?_
                refine jr_aload rfl rfl ?_
                refine jr_getR rfl rfl rfl rfl (Or.inl rfl) ?_
                refine jr_aload rfl rfl ?_
                refine jr_getI rfl rfl ?_
                refine jr_iald (len := 2) rfl rfl hw.1 (by omega) ?_
                refine jr_ic rfl ?_
                refine jr_isub rfl ?_
                refine jr_cs3 (mc' := 0) (ms' := 0) rfl jm_MD_isIn_n jm_MD_isIn_f rfl rfl rfl rfl rfl (Nat.zero_le _) (Nat.zero_le _) ?_
                show jx_W (jm_MD_isIn, _, _, _, _, _, _) _ 0 0 0 [some _, some _, some _] [] _
                refine jr_iload rfl rfl ?_
                refine jr_iload rfl rfl ?_
                refine jr_icmp_lt rfl (fun m2MDisIn_2 => ?_) (fun m2MDisIn_2 => ?_)
                · refine jr_ic rfl ?_
                  refine jr_zret rfl rfl rfl (Nat.zero_le _) (Nat.zero_le _) ?_
                  refine jr_if_eq rfl (fun _ => ?_) (fun z => absurd (by decide) z)
                  refine jr_ic rfl ?_
                  refine jr_iret rfl rfl (Nat.zero_le _) (Nat.zero_le _) ?_
                  first
                    | exact ⟨rfl, hRel0⟩
                    | (exfalso; omega)
                    | (exfalso; simp (disch := omega) only [Int32.lt_iff_toInt_lt, Int32.le_iff_toInt_le, ← Int32.toInt_inj, Int32.reduceToInt, nI_toInt] at c1RephasMonth c5RephasMonth c1Ledwrite c4Ledwrite m2MDisIn m5MDisIn m2MDisIn_2; done)
                    | (exfalso; simp (disch := omega) only [Int32.lt_iff_toInt_lt, Int32.le_iff_toInt_le, ← Int32.toInt_inj, Int32.reduceToInt, nI_toInt] at c1RephasMonth c5RephasMonth c1Ledwrite c4Ledwrite m2MDisIn m5MDisIn m2MDisIn_2; omega)
                · refine jr_iload rfl rfl ?_
                  refine jr_iload rfl rfl ?_
                  refine jr_icmp_gt rfl (fun m5MDisIn_2 => ?_) (fun m5MDisIn_2 => ?_)
                  · refine jr_ic rfl ?_
                    refine jr_zret rfl rfl rfl (Nat.zero_le _) (Nat.zero_le _) ?_
                    refine jr_if_eq rfl (fun _ => ?_) (fun z => absurd (by decide) z)
                    refine jr_ic rfl ?_
                    refine jr_iret rfl rfl (Nat.zero_le _) (Nat.zero_le _) ?_
                    first
                      | exact ⟨rfl, hRel0⟩
                      | (exfalso; omega)
                      | (exfalso; simp (disch := omega) only [Int32.lt_iff_toInt_lt, Int32.le_iff_toInt_le, ← Int32.toInt_inj, Int32.reduceToInt, nI_toInt] at c1RephasMonth c5RephasMonth c1Ledwrite c4Ledwrite m2MDisIn m5MDisIn m2MDisIn_2 m5MDisIn_2; done)
                      | (exfalso; simp (disch := omega) only [Int32.lt_iff_toInt_lt, Int32.le_iff_toInt_le, ← Int32.toInt_inj, Int32.reduceToInt, nI_toInt] at c1RephasMonth c5RephasMonth c1Ledwrite c4Ledwrite m2MDisIn m5MDisIn m2MDisIn_2 m5MDisIn_2; omega)
                  · refine jr_ic rfl ?_
                    refine jr_goto rfl ?_
                    refine jr_zret rfl rfl rfl (Nat.zero_le _) (Nat.zero_le _) ?_
                    refine jr_if_eq rfl (fun z => absurd z (by decide)) (fun _ => ?_)
                    refine jr_iload rfl rfl ?_
                    refine jr_ic rfl ?_
                    refine jr_ic rfl ?_
                    refine jr_cs3 (mc' := 0) (ms' := 0) rfl jm_MD_isIn_n jm_MD_isIn_f rfl rfl rfl rfl rfl (Nat.zero_le _) (Nat.zero_le _) ?_
                    show jx_W (jm_MD_isIn, _, _, _, _, _, _) _ 0 0 0 [some _, some _, some _] [] _
                    refine jr_iload rfl rfl ?_
                    refine jr_iload rfl rfl ?_
                    refine jr_icmp_lt rfl (fun m2MDisIn_3 => ?_) (fun m2MDisIn_3 => ?_)
                    · refine jr_ic rfl ?_
                      refine jr_zret rfl rfl rfl (Nat.zero_le _) (Nat.zero_le _) ?_
                      refine jr_if_eq rfl (fun _ => ?_) (fun z => absurd (by decide) z)
                      refine jr_ic rfl ?_
                      refine jr_iret rfl rfl (Nat.zero_le _) (Nat.zero_le _) ?_
                      first
                        | exact ⟨rfl, hRel0⟩
                        | (exfalso; omega)
                        | (exfalso; simp (disch := omega) only [Int32.lt_iff_toInt_lt, Int32.le_iff_toInt_le, ← Int32.toInt_inj, Int32.reduceToInt, nI_toInt] at c1RephasMonth c5RephasMonth c1Ledwrite c4Ledwrite m2MDisIn m5MDisIn m2MDisIn_2 m5MDisIn_2 m2MDisIn_3; done)
                        | (exfalso; simp (disch := omega) only [Int32.lt_iff_toInt_lt, Int32.le_iff_toInt_le, ← Int32.toInt_inj, Int32.reduceToInt, nI_toInt] at c1RephasMonth c5RephasMonth c1Ledwrite c4Ledwrite m2MDisIn m5MDisIn m2MDisIn_2 m5MDisIn_2 m2MDisIn_3; omega)
                    · refine jr_iload rfl rfl ?_
                      refine jr_iload rfl rfl ?_
                      refine jr_icmp_gt rfl (fun m5MDisIn_3 => ?_) (fun m5MDisIn_3 => ?_)
                      · refine jr_ic rfl ?_
                        refine jr_zret rfl rfl rfl (Nat.zero_le _) (Nat.zero_le _) ?_
                        refine jr_if_eq rfl (fun _ => ?_) (fun z => absurd (by decide) z)
                        refine jr_ic rfl ?_
                        refine jr_iret rfl rfl (Nat.zero_le _) (Nat.zero_le _) ?_
                        first
                          | exact ⟨rfl, hRel0⟩
                          | (exfalso; omega)
                          | (exfalso; simp (disch := omega) only [Int32.lt_iff_toInt_lt, Int32.le_iff_toInt_le, ← Int32.toInt_inj, Int32.reduceToInt, nI_toInt] at c1RephasMonth c5RephasMonth c1Ledwrite c4Ledwrite m2MDisIn m5MDisIn m2MDisIn_2 m5MDisIn_2 m2MDisIn_3 m5MDisIn_3; done)
                          | (exfalso; simp (disch := omega) only [Int32.lt_iff_toInt_lt, Int32.le_iff_toInt_le, ← Int32.toInt_inj, Int32.reduceToInt, nI_toInt] at c1RephasMonth c5RephasMonth c1Ledwrite c4Ledwrite m2MDisIn m5MDisIn m2MDisIn_2 m5MDisIn_2 m2MDisIn_3 m5MDisIn_3; omega)
                      · refine jr_ic rfl ?_
                        refine jr_goto rfl ?_
                        refine jr_zret rfl rfl rfl (Nat.zero_le _) (Nat.zero_le _) ?_
                        refine jr_if_eq rfl (fun z => absurd z (by decide)) (fun _ => ?_)
                        refine jr_aload rfl rfl ?_
                        refine jr_getI rfl rfl ?_
                        refine jr_ic rfl ?_
                        refine jr_icmp_ne rfl (fun m24 => ?_) (fun m24 => ?_)
                        · first
                            | (exfalso; omega)
                            | (exfalso; simp (disch := omega) only [Int32.lt_iff_toInt_lt, Int32.le_iff_toInt_le, ← Int32.toInt_inj, Int32.reduceToInt, nI_toInt] at c1RephasMonth c5RephasMonth c1Ledwrite c4Ledwrite m2MDisIn m5MDisIn m2MDisIn_2 m5MDisIn_2 m2MDisIn_3 m5MDisIn_3 m24; done)
                            | (exfalso; simp (disch := omega) only [Int32.lt_iff_toInt_lt, Int32.le_iff_toInt_le, ← Int32.toInt_inj, Int32.reduceToInt, nI_toInt] at c1RephasMonth c5RephasMonth c1Ledwrite c4Ledwrite m2MDisIn m5MDisIn m2MDisIn_2 m5MDisIn_2 m2MDisIn_3 m5MDisIn_3 m24; omega)
                        · refine jr_ic rfl ?_
                          refine jr_iret rfl rfl (Nat.zero_le _) (Nat.zero_le _) ?_
                          first
                            | exact ⟨rfl, hRel0⟩
                            | (exfalso; omega)
                            | (exfalso; simp (disch := omega) only [Int32.lt_iff_toInt_lt, Int32.le_iff_toInt_le, ← Int32.toInt_inj, Int32.reduceToInt, nI_toInt] at c1RephasMonth c5RephasMonth c1Ledwrite c4Ledwrite m2MDisIn m5MDisIn m2MDisIn_2 m5MDisIn_2 m2MDisIn_3 m5MDisIn_3 m24; done)
                            | (exfalso; simp (disch := omega) only [Int32.lt_iff_toInt_lt, Int32.le_iff_toInt_le, ← Int32.toInt_inj, Int32.reduceToInt, nI_toInt] at c1RephasMonth c5RephasMonth c1Ledwrite c4Ledwrite m2MDisIn m5MDisIn m2MDisIn_2 m5MDisIn_2 m2MDisIn_3 m5MDisIn_3 m24; omega)
          · refine jr_iload rfl rfl ?_
            refine jr_ic rfl ?_
            refine jr_icmp_lt rfl (fun c7Ledwrite => ?_) (fun c7Ledwrite => ?_)
            · refine jr_ic rfl ?_
              refine jr_iret rfl rfl (Nat.zero_le _) (Nat.zero_le _) ?_
              refine jr_iret rfl rfl (Nat.zero_le _) (Nat.zero_le _) ?_
              show jx_W (jm_MD_ledger, d + 40, 0, 0, false, 1, _) _ 0 0 0 [some _, some _, some _, some _] [] _
              refine jr_iload rfl rfl ?_
              refine jr_ic rfl ?_
              refine jr_ic rfl ?_
              refine jr_cs3 (mc' := 0) (ms' := 0) rfl jm_MD_isIn_n jm_MD_isIn_f rfl rfl rfl rfl rfl (Nat.zero_le _) (Nat.zero_le _) ?_
              show jx_W (jm_MD_isIn, _, _, _, _, _, _) _ 0 0 0 [some _, some _, some _] [] _
              refine jr_iload rfl rfl ?_
              refine jr_iload rfl rfl ?_
              refine jr_icmp_lt rfl (fun m2MDisIn => ?_) (fun m2MDisIn => ?_)
              · refine jr_ic rfl ?_
                refine jr_zret rfl rfl rfl (Nat.zero_le _) (Nat.zero_le _) ?_
                refine jr_if_eq rfl (fun _ => ?_) (fun z => absurd (by decide) z)
                refine jr_ic rfl ?_
                refine jr_iret rfl rfl (Nat.zero_le _) (Nat.zero_le _) ?_
                first
                  | exact ⟨rfl, hRel0⟩
                  | (exfalso; omega)
                  | (exfalso; simp (disch := omega) only [Int32.lt_iff_toInt_lt, Int32.le_iff_toInt_le, ← Int32.toInt_inj, Int32.reduceToInt, nI_toInt] at c1RephasMonth c5RephasMonth c1Ledwrite c4Ledwrite c7Ledwrite m2MDisIn; done)
                  | (exfalso; simp (disch := omega) only [Int32.lt_iff_toInt_lt, Int32.le_iff_toInt_le, ← Int32.toInt_inj, Int32.reduceToInt, nI_toInt] at c1RephasMonth c5RephasMonth c1Ledwrite c4Ledwrite c7Ledwrite m2MDisIn; omega)
              · refine jr_iload rfl rfl ?_
                refine jr_iload rfl rfl ?_
                refine jr_icmp_gt rfl (fun m5MDisIn => ?_) (fun m5MDisIn => ?_)
                · refine jr_ic rfl ?_
                  refine jr_zret rfl rfl rfl (Nat.zero_le _) (Nat.zero_le _) ?_
                  refine jr_if_eq rfl (fun _ => ?_) (fun z => absurd (by decide) z)
                  refine jr_ic rfl ?_
                  refine jr_iret rfl rfl (Nat.zero_le _) (Nat.zero_le _) ?_
                  first
                    | exact ⟨rfl, hRel0⟩
                    | (exfalso; omega)
                    | (exfalso; simp (disch := omega) only [Int32.lt_iff_toInt_lt, Int32.le_iff_toInt_le, ← Int32.toInt_inj, Int32.reduceToInt, nI_toInt] at c1RephasMonth c5RephasMonth c1Ledwrite c4Ledwrite c7Ledwrite m2MDisIn m5MDisIn; done)
                    | (exfalso; simp (disch := omega) only [Int32.lt_iff_toInt_lt, Int32.le_iff_toInt_le, ← Int32.toInt_inj, Int32.reduceToInt, nI_toInt] at c1RephasMonth c5RephasMonth c1Ledwrite c4Ledwrite c7Ledwrite m2MDisIn m5MDisIn; omega)
                · refine jr_ic rfl ?_
                  refine jr_goto rfl ?_
                  refine jr_zret rfl rfl rfl (Nat.zero_le _) (Nat.zero_le _) ?_
                  refine jr_if_eq rfl (fun z => absurd z (by decide)) (fun _ => ?_)
                  refine jr_iload rfl rfl ?_
                  refine jr_ic rfl ?_
                  refine jr_aload rfl rfl ?_
                  refine jr_getR rfl rfl rfl rfl (Or.inl rfl) ?_
                  refine jr_aload rfl rfl ?_
                  refine jr_getI rfl rfl ?_
                  refine jr_iald (len := 2) rfl rfl hw.1 (by omega) ?_
                  refine jr_ic rfl ?_
                  refine jr_isub rfl ?_
                  refine jr_cs3 (mc' := 0) (ms' := 0) rfl jm_MD_isIn_n jm_MD_isIn_f rfl rfl rfl rfl rfl (Nat.zero_le _) (Nat.zero_le _) ?_
                  show jx_W (jm_MD_isIn, _, _, _, _, _, _) _ 0 0 0 [some _, some _, some _] [] _
                  refine jr_iload rfl rfl ?_
                  refine jr_iload rfl rfl ?_
                  refine jr_icmp_lt rfl (fun m2MDisIn_2 => ?_) (fun m2MDisIn_2 => ?_)
                  · refine jr_ic rfl ?_
                    refine jr_zret rfl rfl rfl (Nat.zero_le _) (Nat.zero_le _) ?_
                    refine jr_if_eq rfl (fun _ => ?_) (fun z => absurd (by decide) z)
                    refine jr_ic rfl ?_
                    refine jr_iret rfl rfl (Nat.zero_le _) (Nat.zero_le _) ?_
                    first
                      | exact ⟨rfl, hRel0⟩
                      | (exfalso; omega)
                      | (exfalso; simp (disch := omega) only [Int32.lt_iff_toInt_lt, Int32.le_iff_toInt_le, ← Int32.toInt_inj, Int32.reduceToInt, nI_toInt] at c1RephasMonth c5RephasMonth c1Ledwrite c4Ledwrite c7Ledwrite m2MDisIn m5MDisIn m2MDisIn_2; done)
                      | (exfalso; simp (disch := omega) only [Int32.lt_iff_toInt_lt, Int32.le_iff_toInt_le, ← Int32.toInt_inj, Int32.reduceToInt, nI_toInt] at c1RephasMonth c5RephasMonth c1Ledwrite c4Ledwrite c7Ledwrite m2MDisIn m5MDisIn m2MDisIn_2; omega)
                  · refine jr_iload rfl rfl ?_
                    refine jr_iload rfl rfl ?_
                    refine jr_icmp_gt rfl (fun m5MDisIn_2 => ?_) (fun m5MDisIn_2 => ?_)
                    · refine jr_ic rfl ?_
                      refine jr_zret rfl rfl rfl (Nat.zero_le _) (Nat.zero_le _) ?_
                      refine jr_if_eq rfl (fun _ => ?_) (fun z => absurd (by decide) z)
                      refine jr_ic rfl ?_
                      refine jr_iret rfl rfl (Nat.zero_le _) (Nat.zero_le _) ?_
                      first
                        | exact ⟨rfl, hRel0⟩
                        | (exfalso; omega)
                        | (exfalso; simp (disch := omega) only [Int32.lt_iff_toInt_lt, Int32.le_iff_toInt_le, ← Int32.toInt_inj, Int32.reduceToInt, nI_toInt] at c1RephasMonth c5RephasMonth c1Ledwrite c4Ledwrite c7Ledwrite m2MDisIn m5MDisIn m2MDisIn_2 m5MDisIn_2; done)
                        | (exfalso; simp (disch := omega) only [Int32.lt_iff_toInt_lt, Int32.le_iff_toInt_le, ← Int32.toInt_inj, Int32.reduceToInt, nI_toInt] at c1RephasMonth c5RephasMonth c1Ledwrite c4Ledwrite c7Ledwrite m2MDisIn m5MDisIn m2MDisIn_2 m5MDisIn_2; omega)
                    · refine jr_ic rfl ?_
                      refine jr_goto rfl ?_
                      refine jr_zret rfl rfl rfl (Nat.zero_le _) (Nat.zero_le _) ?_
                      refine jr_if_eq rfl (fun z => absurd z (by decide)) (fun _ => ?_)
                      refine jr_iload rfl rfl ?_
                      refine jr_ic rfl ?_
                      refine jr_ic rfl ?_
                      refine jr_cs3 (mc' := 0) (ms' := 0) rfl jm_MD_isIn_n jm_MD_isIn_f rfl rfl rfl rfl rfl (Nat.zero_le _) (Nat.zero_le _) ?_
                      show jx_W (jm_MD_isIn, _, _, _, _, _, _) _ 0 0 0 [some _, some _, some _] [] _
                      refine jr_iload rfl rfl ?_
                      refine jr_iload rfl rfl ?_
                      refine jr_icmp_lt rfl (fun m2MDisIn_3 => ?_) (fun m2MDisIn_3 => ?_)
                      · refine jr_ic rfl ?_
                        refine jr_zret rfl rfl rfl (Nat.zero_le _) (Nat.zero_le _) ?_
                        refine jr_if_eq rfl (fun _ => ?_) (fun z => absurd (by decide) z)
                        refine jr_ic rfl ?_
                        refine jr_iret rfl rfl (Nat.zero_le _) (Nat.zero_le _) ?_
                        first
                          | exact ⟨rfl, hRel0⟩
                          | (exfalso; omega)
                          | (exfalso; simp (disch := omega) only [Int32.lt_iff_toInt_lt, Int32.le_iff_toInt_le, ← Int32.toInt_inj, Int32.reduceToInt, nI_toInt] at c1RephasMonth c5RephasMonth c1Ledwrite c4Ledwrite c7Ledwrite m2MDisIn m5MDisIn m2MDisIn_2 m5MDisIn_2 m2MDisIn_3; done)
                          | (exfalso; simp (disch := omega) only [Int32.lt_iff_toInt_lt, Int32.le_iff_toInt_le, ← Int32.toInt_inj, Int32.reduceToInt, nI_toInt] at c1RephasMonth c5RephasMonth c1Ledwrite c4Ledwrite c7Ledwrite m2MDisIn m5MDisIn m2MDisIn_2 m5MDisIn_2 m2MDisIn_3; omega)
                      · refine jr_iload rfl rfl ?_
                        refine jr_iload rfl rfl ?_
                        refine jr_icmp_gt rfl (fun m5MDisIn_3 => ?_) (fun m5MDisIn_3 => ?_)
                        · refine jr_ic rfl ?_
                          refine jr_zret rfl rfl rfl (Nat.zero_le _) (Nat.zero_le _) ?_
                          refine jr_if_eq rfl (fun _ => ?_) (fun z => absurd (by decide) z)
                          refine jr_ic rfl ?_
                          refine jr_iret rfl rfl (Nat.zero_le _) (Nat.zero_le _) ?_
                          first
                            | exact ⟨rfl, hRel0⟩
                            | (exfalso; omega)
                            | (exfalso; simp (disch := omega) only [Int32.lt_iff_toInt_lt, Int32.le_iff_toInt_le, ← Int32.toInt_inj, Int32.reduceToInt, nI_toInt] at c1RephasMonth c5RephasMonth c1Ledwrite c4Ledwrite c7Ledwrite m2MDisIn m5MDisIn m2MDisIn_2 m5MDisIn_2 m2MDisIn_3 m5MDisIn_3; done)
                            | (exfalso; simp (disch := omega) only [Int32.lt_iff_toInt_lt, Int32.le_iff_toInt_le, ← Int32.toInt_inj, Int32.reduceToInt, nI_toInt] at c1RephasMonth c5RephasMonth c1Ledwrite c4Ledwrite c7Ledwrite m2MDisIn m5MDisIn m2MDisIn_2 m5MDisIn_2 m2MDisIn_3 m5MDisIn_3; omega)
                        · refine jr_ic rfl ?_
                          refine jr_goto rfl ?_
                          refine jr_zret rfl rfl rfl (Nat.zero_le _) (Nat.zero_le _) ?_
                          refine jr_if_eq rfl (fun z => absurd z (by decide)) (fun _ => ?_)
                          refine jr_aload rfl rfl ?_
                          refine jr_getI rfl rfl ?_
                          refine jr_ic rfl ?_
                          refine jr_icmp_ne rfl (fun m24 => ?_) (fun m24 => ?_)
                          · first
                              | (exfalso; omega)
                              | (exfalso; simp (disch := omega) only [Int32.lt_iff_toInt_lt, Int32.le_iff_toInt_le, ← Int32.toInt_inj, Int32.reduceToInt, nI_toInt] at c1RephasMonth c5RephasMonth c1Ledwrite c4Ledwrite c7Ledwrite m2MDisIn m5MDisIn m2MDisIn_2 m5MDisIn_2 m2MDisIn_3 m5MDisIn_3 m24; done)
                              | (exfalso; simp (disch := omega) only [Int32.lt_iff_toInt_lt, Int32.le_iff_toInt_le, ← Int32.toInt_inj, Int32.reduceToInt, nI_toInt] at c1RephasMonth c5RephasMonth c1Ledwrite c4Ledwrite c7Ledwrite m2MDisIn m5MDisIn m2MDisIn_2 m5MDisIn_2 m2MDisIn_3 m5MDisIn_3 m24; omega)
                          · refine jr_ic rfl ?_
                            refine jr_iret rfl rfl (Nat.zero_le _) (Nat.zero_le _) ?_
                            first
                              | exact ⟨rfl, hRel0⟩
                              | (exfalso; omega)
                              | (exfalso; simp (disch := omega) only [Int32.lt_iff_toInt_lt, Int32.le_iff_toInt_le, ← Int32.toInt_inj, Int32.reduceToInt, nI_toInt] at c1RephasMonth c5RephasMonth c1Ledwrite c4Ledwrite c7Ledwrite m2MDisIn m5MDisIn m2MDisIn_2 m5MDisIn_2 m2MDisIn_3 m5MDisIn_3 m24; done)
                              | (exfalso; simp (disch := omega) only [Int32.lt_iff_toInt_lt, Int32.le_iff_toInt_le, ← Int32.toInt_inj, Int32.reduceToInt, nI_toInt] at c1RephasMonth c5RephasMonth c1Ledwrite c4Ledwrite c7Ledwrite m2MDisIn m5MDisIn m2MDisIn_2 m5MDisIn_2 m2MDisIn_3 m5MDisIn_3 m24; omega)
            · refine jr_iload rfl rfl ?_
              refine jr_ic rfl ?_
              refine jr_icmp_gt rfl (fun c10Ledwrite => ?_) (fun c10Ledwrite => ?_)
              · refine jr_ic rfl ?_
                refine jr_iret rfl rfl (Nat.zero_le _) (Nat.zero_le _) ?_
                refine jr_iret rfl rfl (Nat.zero_le _) (Nat.zero_le _) ?_
                show jx_W (jm_MD_ledger, d + 40, 0, 0, false, 1, _) _ 0 0 0 [some _, some _, some _, some _] [] _
                refine jr_iload rfl rfl ?_
                refine jr_ic rfl ?_
                refine jr_ic rfl ?_
                refine jr_cs3 (mc' := 0) (ms' := 0) rfl jm_MD_isIn_n jm_MD_isIn_f rfl rfl rfl rfl rfl (Nat.zero_le _) (Nat.zero_le _) ?_
                show jx_W (jm_MD_isIn, _, _, _, _, _, _) _ 0 0 0 [some _, some _, some _] [] _
                refine jr_iload rfl rfl ?_
                refine jr_iload rfl rfl ?_
                refine jr_icmp_lt rfl (fun m2MDisIn => ?_) (fun m2MDisIn => ?_)
                · refine jr_ic rfl ?_
                  refine jr_zret rfl rfl rfl (Nat.zero_le _) (Nat.zero_le _) ?_
                  refine jr_if_eq rfl (fun _ => ?_) (fun z => absurd (by decide) z)
                  refine jr_ic rfl ?_
                  refine jr_iret rfl rfl (Nat.zero_le _) (Nat.zero_le _) ?_
                  first
                    | exact ⟨rfl, hRel0⟩
                    | (exfalso; omega)
                    | (exfalso; simp (disch := omega) only [Int32.lt_iff_toInt_lt, Int32.le_iff_toInt_le, ← Int32.toInt_inj, Int32.reduceToInt, nI_toInt] at c1RephasMonth c5RephasMonth c1Ledwrite c4Ledwrite c7Ledwrite c10Ledwrite m2MDisIn; done)
                    | (exfalso; simp (disch := omega) only [Int32.lt_iff_toInt_lt, Int32.le_iff_toInt_le, ← Int32.toInt_inj, Int32.reduceToInt, nI_toInt] at c1RephasMonth c5RephasMonth c1Ledwrite c4Ledwrite c7Ledwrite c10Ledwrite m2MDisIn; omega)
                · refine jr_iload rfl rfl ?_
                  refine jr_iload rfl rfl ?_
                  refine jr_icmp_gt rfl (fun m5MDisIn => ?_) (fun m5MDisIn => ?_)
                  · refine jr_ic rfl ?_
                    refine jr_zret rfl rfl rfl (Nat.zero_le _) (Nat.zero_le _) ?_
                    refine jr_if_eq rfl (fun _ => ?_) (fun z => absurd (by decide) z)
                    refine jr_ic rfl ?_
                    refine jr_iret rfl rfl (Nat.zero_le _) (Nat.zero_le _) ?_
                    first
                      | exact ⟨rfl, hRel0⟩
                      | (exfalso; omega)
                      | (exfalso; simp (disch := omega) only [Int32.lt_iff_toInt_lt, Int32.le_iff_toInt_le, ← Int32.toInt_inj, Int32.reduceToInt, nI_toInt] at c1RephasMonth c5RephasMonth c1Ledwrite c4Ledwrite c7Ledwrite c10Ledwrite m2MDisIn m5MDisIn; done)
                      | (exfalso; simp (disch := omega) only [Int32.lt_iff_toInt_lt, Int32.le_iff_toInt_le, ← Int32.toInt_inj, Int32.reduceToInt, nI_toInt] at c1RephasMonth c5RephasMonth c1Ledwrite c4Ledwrite c7Ledwrite c10Ledwrite m2MDisIn m5MDisIn; omega)
                  · refine jr_ic rfl ?_
                    refine jr_goto rfl ?_
                    refine jr_zret rfl rfl rfl (Nat.zero_le _) (Nat.zero_le _) ?_
                    refine jr_if_eq rfl (fun z => absurd z (by decide)) (fun _ => ?_)
                    refine jr_iload rfl rfl ?_
                    refine jr_ic rfl ?_
                    refine jr_aload rfl rfl ?_
                    refine jr_getR rfl rfl rfl rfl (Or.inl rfl) ?_
                    refine jr_aload rfl rfl ?_
                    refine jr_getI rfl rfl ?_
                    refine jr_iald (len := 2) rfl rfl hw.1 (by omega) ?_
                    refine jr_ic rfl ?_
                    refine jr_isub rfl ?_
                    refine jr_cs3 (mc' := 0) (ms' := 0) rfl jm_MD_isIn_n jm_MD_isIn_f rfl rfl rfl rfl rfl (Nat.zero_le _) (Nat.zero_le _) ?_
                    show jx_W (jm_MD_isIn, _, _, _, _, _, _) _ 0 0 0 [some _, some _, some _] [] _
                    refine jr_iload rfl rfl ?_
                    refine jr_iload rfl rfl ?_
                    refine jr_icmp_lt rfl (fun m2MDisIn_2 => ?_) (fun m2MDisIn_2 => ?_)
                    · refine jr_ic rfl ?_
                      refine jr_zret rfl rfl rfl (Nat.zero_le _) (Nat.zero_le _) ?_
                      refine jr_if_eq rfl (fun _ => ?_) (fun z => absurd (by decide) z)
                      refine jr_ic rfl ?_
                      refine jr_iret rfl rfl (Nat.zero_le _) (Nat.zero_le _) ?_
                      first
                        | exact ⟨rfl, hRel0⟩
                        | (exfalso; omega)
                        | (exfalso; simp (disch := omega) only [Int32.lt_iff_toInt_lt, Int32.le_iff_toInt_le, ← Int32.toInt_inj, Int32.reduceToInt, nI_toInt] at c1RephasMonth c5RephasMonth c1Ledwrite c4Ledwrite c7Ledwrite c10Ledwrite m2MDisIn m5MDisIn m2MDisIn_2; done)
                        | (exfalso; simp (disch := omega) only [Int32.lt_iff_toInt_lt, Int32.le_iff_toInt_le, ← Int32.toInt_inj, Int32.reduceToInt, nI_toInt] at c1RephasMonth c5RephasMonth c1Ledwrite c4Ledwrite c7Ledwrite c10Ledwrite m2MDisIn m5MDisIn m2MDisIn_2; omega)
                    · refine jr_iload rfl rfl ?_
                      refine jr_iload rfl rfl ?_
                      refine jr_icmp_gt rfl (fun m5MDisIn_2 => ?_) (fun m5MDisIn_2 => ?_)
                      · refine jr_ic rfl ?_
                        refine jr_zret rfl rfl rfl (Nat.zero_le _) (Nat.zero_le _) ?_
                        refine jr_if_eq rfl (fun _ => ?_) (fun z => absurd (by decide) z)
                        refine jr_ic rfl ?_
                        refine jr_iret rfl rfl (Nat.zero_le _) (Nat.zero_le _) ?_
                        first
                          | exact ⟨rfl, hRel0⟩
                          | (exfalso; omega)
                          | (exfalso; simp (disch := omega) only [Int32.lt_iff_toInt_lt, Int32.le_iff_toInt_le, ← Int32.toInt_inj, Int32.reduceToInt, nI_toInt] at c1RephasMonth c5RephasMonth c1Ledwrite c4Ledwrite c7Ledwrite c10Ledwrite m2MDisIn m5MDisIn m2MDisIn_2 m5MDisIn_2; done)
                          | (exfalso; simp (disch := omega) only [Int32.lt_iff_toInt_lt, Int32.le_iff_toInt_le, ← Int32.toInt_inj, Int32.reduceToInt, nI_toInt] at c1RephasMonth c5RephasMonth c1Ledwrite c4Ledwrite c7Ledwrite c10Ledwrite m2MDisIn m5MDisIn m2MDisIn_2 m5MDisIn_2; omega)
                      · refine jr_ic rfl ?_
                        refine jr_goto rfl ?_
                        refine jr_zret rfl rfl rfl (Nat.zero_le _) (Nat.zero_le _) ?_
                        refine jr_if_eq rfl (fun z => absurd z (by decide)) (fun _ => ?_)
                        refine jr_iload rfl rfl ?_
                        refine jr_ic rfl ?_
                        refine jr_ic rfl ?_
                        refine jr_cs3 (mc' := 0) (ms' := 0) rfl jm_MD_isIn_n jm_MD_isIn_f rfl rfl rfl rfl rfl (Nat.zero_le _) (Nat.zero_le _) ?_
                        show jx_W (jm_MD_isIn, _, _, _, _, _, _) _ 0 0 0 [some _, some _, some _] [] _
                        refine jr_iload rfl rfl ?_
                        refine jr_iload rfl rfl ?_
                        refine jr_icmp_lt rfl (fun m2MDisIn_3 => ?_) (fun m2MDisIn_3 => ?_)
                        · refine jr_ic rfl ?_
                          refine jr_zret rfl rfl rfl (Nat.zero_le _) (Nat.zero_le _) ?_
                          refine jr_if_eq rfl (fun _ => ?_) (fun z => absurd (by decide) z)
                          refine jr_ic rfl ?_
                          refine jr_iret rfl rfl (Nat.zero_le _) (Nat.zero_le _) ?_
                          first
                            | exact ⟨rfl, hRel0⟩
                            | (exfalso; omega)
                            | (exfalso; simp (disch := omega) only [Int32.lt_iff_toInt_lt, Int32.le_iff_toInt_le, ← Int32.toInt_inj, Int32.reduceToInt, nI_toInt] at c1RephasMonth c5RephasMonth c1Ledwrite c4Ledwrite c7Ledwrite c10Ledwrite m2MDisIn m5MDisIn m2MDisIn_2 m5MDisIn_2 m2MDisIn_3; done)
                            | (exfalso; simp (disch := omega) only [Int32.lt_iff_toInt_lt, Int32.le_iff_toInt_le, ← Int32.toInt_inj, Int32.reduceToInt, nI_toInt] at c1RephasMonth c5RephasMonth c1Ledwrite c4Ledwrite c7Ledwrite c10Ledwrite m2MDisIn m5MDisIn m2MDisIn_2 m5MDisIn_2 m2MDisIn_3; omega)
                        · refine jr_iload rfl rfl ?_
                          refine jr_iload rfl rfl ?_
                          refine jr_icmp_gt rfl (fun m5MDisIn_3 => ?_) (fun m5MDisIn_3 => ?_)
                          · refine jr_ic rfl ?_
                            refine jr_zret rfl rfl rfl (Nat.zero_le _) (Nat.zero_le _) ?_
                            refine jr_if_eq rfl (fun _ => ?_) (fun z => absurd (by decide) z)
                            refine jr_ic rfl ?_
                            refine jr_iret rfl rfl (Nat.zero_le _) (Nat.zero_le _) ?_
                            first
                              | exact ⟨rfl, hRel0⟩
                              | (exfalso; omega)
                              | (exfalso; simp (disch := omega) only [Int32.lt_iff_toInt_lt, Int32.le_iff_toInt_le, ← Int32.toInt_inj, Int32.reduceToInt, nI_toInt] at c1RephasMonth c5RephasMonth c1Ledwrite c4Ledwrite c7Ledwrite c10Ledwrite m2MDisIn m5MDisIn m2MDisIn_2 m5MDisIn_2 m2MDisIn_3 m5MDisIn_3; done)
                              | (exfalso; simp (disch := omega) only [Int32.lt_iff_toInt_lt, Int32.le_iff_toInt_le, ← Int32.toInt_inj, Int32.reduceToInt, nI_toInt] at c1RephasMonth c5RephasMonth c1Ledwrite c4Ledwrite c7Ledwrite c10Ledwrite m2MDisIn m5MDisIn m2MDisIn_2 m5MDisIn_2 m2MDisIn_3 m5MDisIn_3; omega)
                          · refine jr_ic rfl ?_
                            refine jr_goto rfl ?_
                            refine jr_zret rfl rfl rfl (Nat.zero_le _) (Nat.zero_le _) ?_
                            refine jr_if_eq rfl (fun z => absurd z (by decide)) (fun _ => ?_)
                            refine jr_aload rfl rfl ?_
                            refine jr_getI rfl rfl ?_
                            refine jr_ic rfl ?_
                            refine jr_icmp_ne rfl (fun m24 => ?_) (fun m24 => ?_)
                            · first
                                | (exfalso; omega)
                                | (exfalso; simp (disch := omega) only [Int32.lt_iff_toInt_lt, Int32.le_iff_toInt_le, ← Int32.toInt_inj, Int32.reduceToInt, nI_toInt] at c1RephasMonth c5RephasMonth c1Ledwrite c4Ledwrite c7Ledwrite c10Ledwrite m2MDisIn m5MDisIn m2MDisIn_2 m5MDisIn_2 m2MDisIn_3 m5MDisIn_3 m24; done)
                                | (exfalso; simp (disch := omega) only [Int32.lt_iff_toInt_lt, Int32.le_iff_toInt_le, ← Int32.toInt_inj, Int32.reduceToInt, nI_toInt] at c1RephasMonth c5RephasMonth c1Ledwrite c4Ledwrite c7Ledwrite c10Ledwrite m2MDisIn m5MDisIn m2MDisIn_2 m5MDisIn_2 m2MDisIn_3 m5MDisIn_3 m24; omega)
                            · refine jr_ic rfl ?_
                              refine jr_iret rfl rfl (Nat.zero_le _) (Nat.zero_le _) ?_
                              first
                                | exact ⟨rfl, hRel0⟩
                                | (exfalso; omega)
                                | (exfalso; simp (disch := omega) only [Int32.lt_iff_toInt_lt, Int32.le_iff_toInt_le, ← Int32.toInt_inj, Int32.reduceToInt, nI_toInt] at c1RephasMonth c5RephasMonth c1Ledwrite c4Ledwrite c7Ledwrite c10Ledwrite m2MDisIn m5MDisIn m2MDisIn_2 m5MDisIn_2 m2MDisIn_3 m5MDisIn_3 m24; done)
                                | (exfalso; simp (disch := omega) only [Int32.lt_iff_toInt_lt, Int32.le_iff_toInt_le, ← Int32.toInt_inj, Int32.reduceToInt, nI_toInt] at c1RephasMonth c5RephasMonth c1Ledwrite c4Ledwrite c7Ledwrite c10Ledwrite m2MDisIn m5MDisIn m2MDisIn_2 m5MDisIn_2 m2MDisIn_3 m5MDisIn_3 m24; omega)
              · refine jr_aload rfl rfl ?_
                refine jr_getI rfl rfl ?_
                refine jr_ic rfl ?_
                refine jr_icmp_lt rfl (fun c14Ledwrite => ?_) (fun c14Ledwrite => ?_)
                · first
                    | (exfalso; omega)
                    | (exfalso; simp (disch := omega) only [Int32.lt_iff_toInt_lt, Int32.le_iff_toInt_le, ← Int32.toInt_inj, Int32.reduceToInt, nI_toInt] at c1RephasMonth c5RephasMonth c1Ledwrite c4Ledwrite c7Ledwrite c10Ledwrite c14Ledwrite; done)
                    | (exfalso; simp (disch := omega) only [Int32.lt_iff_toInt_lt, Int32.le_iff_toInt_le, ← Int32.toInt_inj, Int32.reduceToInt, nI_toInt] at c1RephasMonth c5RephasMonth c1Ledwrite c4Ledwrite c7Ledwrite c10Ledwrite c14Ledwrite; omega)
                · refine jr_ic rfl ?_
                  refine jr_iret rfl rfl (Nat.zero_le _) (Nat.zero_le _) ?_
                  refine jr_iret rfl rfl (Nat.zero_le _) (Nat.zero_le _) ?_
                  show jx_W (jm_MD_ledger, d + 40, 0, 0, false, 1, _) _ 0 0 0 [some _, some _, some _, some _] [] _
                  refine jr_iload rfl rfl ?_
                  refine jr_ic rfl ?_
                  refine jr_ic rfl ?_
                  refine jr_cs3 (mc' := 0) (ms' := 0) rfl jm_MD_isIn_n jm_MD_isIn_f rfl rfl rfl rfl rfl (Nat.zero_le _) (Nat.zero_le _) ?_
                  show jx_W (jm_MD_isIn, _, _, _, _, _, _) _ 0 0 0 [some _, some _, some _] [] _
                  refine jr_iload rfl rfl ?_
                  refine jr_iload rfl rfl ?_
                  refine jr_icmp_lt rfl (fun m2MDisIn => ?_) (fun m2MDisIn => ?_)
                  · refine jr_ic rfl ?_
                    refine jr_zret rfl rfl rfl (Nat.zero_le _) (Nat.zero_le _) ?_
                    refine jr_if_eq rfl (fun _ => ?_) (fun z => absurd (by decide) z)
                    refine jr_ic rfl ?_
                    refine jr_iret rfl rfl (Nat.zero_le _) (Nat.zero_le _) ?_
                    first
                      | exact ⟨rfl, hRel0⟩
                      | (exfalso; omega)
                      | (exfalso; simp (disch := omega) only [Int32.lt_iff_toInt_lt, Int32.le_iff_toInt_le, ← Int32.toInt_inj, Int32.reduceToInt, nI_toInt] at c1RephasMonth c5RephasMonth c1Ledwrite c4Ledwrite c7Ledwrite c10Ledwrite c14Ledwrite m2MDisIn; done)
                      | (exfalso; simp (disch := omega) only [Int32.lt_iff_toInt_lt, Int32.le_iff_toInt_le, ← Int32.toInt_inj, Int32.reduceToInt, nI_toInt] at c1RephasMonth c5RephasMonth c1Ledwrite c4Ledwrite c7Ledwrite c10Ledwrite c14Ledwrite m2MDisIn; omega)
                  · refine jr_iload rfl rfl ?_
                    refine jr_iload rfl rfl ?_
                    refine jr_icmp_gt rfl (fun m5MDisIn => ?_) (fun m5MDisIn => ?_)
                    · refine jr_ic rfl ?_
                      refine jr_zret rfl rfl rfl (Nat.zero_le _) (Nat.zero_le _) ?_
                      refine jr_if_eq rfl (fun _ => ?_) (fun z => absurd (by decide) z)
                      refine jr_ic rfl ?_
                      refine jr_iret rfl rfl (Nat.zero_le _) (Nat.zero_le _) ?_
                      first
                        | exact ⟨rfl, hRel0⟩
                        | (exfalso; omega)
                        | (exfalso; simp (disch := omega) only [Int32.lt_iff_toInt_lt, Int32.le_iff_toInt_le, ← Int32.toInt_inj, Int32.reduceToInt, nI_toInt] at c1RephasMonth c5RephasMonth c1Ledwrite c4Ledwrite c7Ledwrite c10Ledwrite c14Ledwrite m2MDisIn m5MDisIn; done)
                        | (exfalso; simp (disch := omega) only [Int32.lt_iff_toInt_lt, Int32.le_iff_toInt_le, ← Int32.toInt_inj, Int32.reduceToInt, nI_toInt] at c1RephasMonth c5RephasMonth c1Ledwrite c4Ledwrite c7Ledwrite c10Ledwrite c14Ledwrite m2MDisIn m5MDisIn; omega)
                    · refine jr_ic rfl ?_
                      refine jr_goto rfl ?_
                      refine jr_zret rfl rfl rfl (Nat.zero_le _) (Nat.zero_le _) ?_
                      refine jr_if_eq rfl (fun z => absurd z (by decide)) (fun _ => ?_)
                      refine jr_iload rfl rfl ?_
                      refine jr_ic rfl ?_
                      refine jr_aload rfl rfl ?_
                      refine jr_getR rfl rfl rfl rfl (Or.inl rfl) ?_
                      refine jr_aload rfl rfl ?_
                      refine jr_getI rfl rfl ?_
                      refine jr_iald (len := 2) rfl rfl hw.1 (by omega) ?_
                      refine jr_ic rfl ?_
                      refine jr_isub rfl ?_
                      refine jr_cs3 (mc' := 0) (ms' := 0) rfl jm_MD_isIn_n jm_MD_isIn_f rfl rfl rfl rfl rfl (Nat.zero_le _) (Nat.zero_le _) ?_
                      show jx_W (jm_MD_isIn, _, _, _, _, _, _) _ 0 0 0 [some _, some _, some _] [] _
                      refine jr_iload rfl rfl ?_
                      refine jr_iload rfl rfl ?_
                      refine jr_icmp_lt rfl (fun m2MDisIn_2 => ?_) (fun m2MDisIn_2 => ?_)
                      · refine jr_ic rfl ?_
                        refine jr_zret rfl rfl rfl (Nat.zero_le _) (Nat.zero_le _) ?_
                        refine jr_if_eq rfl (fun _ => ?_) (fun z => absurd (by decide) z)
                        refine jr_ic rfl ?_
                        refine jr_iret rfl rfl (Nat.zero_le _) (Nat.zero_le _) ?_
                        first
                          | exact ⟨rfl, hRel0⟩
                          | (exfalso; omega)
                          | (exfalso; simp (disch := omega) only [Int32.lt_iff_toInt_lt, Int32.le_iff_toInt_le, ← Int32.toInt_inj, Int32.reduceToInt, nI_toInt] at c1RephasMonth c5RephasMonth c1Ledwrite c4Ledwrite c7Ledwrite c10Ledwrite c14Ledwrite m2MDisIn m5MDisIn m2MDisIn_2; done)
                          | (exfalso; simp (disch := omega) only [Int32.lt_iff_toInt_lt, Int32.le_iff_toInt_le, ← Int32.toInt_inj, Int32.reduceToInt, nI_toInt] at c1RephasMonth c5RephasMonth c1Ledwrite c4Ledwrite c7Ledwrite c10Ledwrite c14Ledwrite m2MDisIn m5MDisIn m2MDisIn_2; omega)
                      · refine jr_iload rfl rfl ?_
                        refine jr_iload rfl rfl ?_
                        refine jr_icmp_gt rfl (fun m5MDisIn_2 => ?_) (fun m5MDisIn_2 => ?_)
                        · refine jr_ic rfl ?_
                          refine jr_zret rfl rfl rfl (Nat.zero_le _) (Nat.zero_le _) ?_
                          refine jr_if_eq rfl (fun _ => ?_) (fun z => absurd (by decide) z)
                          refine jr_ic rfl ?_
                          refine jr_iret rfl rfl (Nat.zero_le _) (Nat.zero_le _) ?_
                          first
                            | exact ⟨rfl, hRel0⟩
                            | (exfalso; omega)
                            | (exfalso; simp (disch := omega) only [Int32.lt_iff_toInt_lt, Int32.le_iff_toInt_le, ← Int32.toInt_inj, Int32.reduceToInt, nI_toInt] at c1RephasMonth c5RephasMonth c1Ledwrite c4Ledwrite c7Ledwrite c10Ledwrite c14Ledwrite m2MDisIn m5MDisIn m2MDisIn_2 m5MDisIn_2; done)
                            | (exfalso; simp (disch := omega) only [Int32.lt_iff_toInt_lt, Int32.le_iff_toInt_le, ← Int32.toInt_inj, Int32.reduceToInt, nI_toInt] at c1RephasMonth c5RephasMonth c1Ledwrite c4Ledwrite c7Ledwrite c10Ledwrite c14Ledwrite m2MDisIn m5MDisIn m2MDisIn_2 m5MDisIn_2; omega)
                        · refine jr_ic rfl ?_
                          refine jr_goto rfl ?_
                          refine jr_zret rfl rfl rfl (Nat.zero_le _) (Nat.zero_le _) ?_
                          refine jr_if_eq rfl (fun z => absurd z (by decide)) (fun _ => ?_)
                          refine jr_iload rfl rfl ?_
                          refine jr_ic rfl ?_
                          refine jr_ic rfl ?_
                          refine jr_cs3 (mc' := 0) (ms' := 0) rfl jm_MD_isIn_n jm_MD_isIn_f rfl rfl rfl rfl rfl (Nat.zero_le _) (Nat.zero_le _) ?_
                          show jx_W (jm_MD_isIn, _, _, _, _, _, _) _ 0 0 0 [some _, some _, some _] [] _
                          refine jr_iload rfl rfl ?_
                          refine jr_iload rfl rfl ?_
                          refine jr_icmp_lt rfl (fun m2MDisIn_3 => ?_) (fun m2MDisIn_3 => ?_)
                          · refine jr_ic rfl ?_
                            refine jr_zret rfl rfl rfl (Nat.zero_le _) (Nat.zero_le _) ?_
                            refine jr_if_eq rfl (fun _ => ?_) (fun z => absurd (by decide) z)
                            refine jr_ic rfl ?_
                            refine jr_iret rfl rfl (Nat.zero_le _) (Nat.zero_le _) ?_
                            first
                              | exact ⟨rfl, hRel0⟩
                              | (exfalso; omega)
                              | (exfalso; simp (disch := omega) only [Int32.lt_iff_toInt_lt, Int32.le_iff_toInt_le, ← Int32.toInt_inj, Int32.reduceToInt, nI_toInt] at c1RephasMonth c5RephasMonth c1Ledwrite c4Ledwrite c7Ledwrite c10Ledwrite c14Ledwrite m2MDisIn m5MDisIn m2MDisIn_2 m5MDisIn_2 m2MDisIn_3; done)
                              | (exfalso; simp (disch := omega) only [Int32.lt_iff_toInt_lt, Int32.le_iff_toInt_le, ← Int32.toInt_inj, Int32.reduceToInt, nI_toInt] at c1RephasMonth c5RephasMonth c1Ledwrite c4Ledwrite c7Ledwrite c10Ledwrite c14Ledwrite m2MDisIn m5MDisIn m2MDisIn_2 m5MDisIn_2 m2MDisIn_3; omega)
                          · refine jr_iload rfl rfl ?_
                            refine jr_iload rfl rfl ?_
                            refine jr_icmp_gt rfl (fun m5MDisIn_3 => ?_) (fun m5MDisIn_3 => ?_)
                            · refine jr_ic rfl ?_
                              refine jr_zret rfl rfl rfl (Nat.zero_le _) (Nat.zero_le _) ?_
                              refine jr_if_eq rfl (fun _ => ?_) (fun z => absurd (by decide) z)
                              refine jr_ic rfl ?_
                              refine jr_iret rfl rfl (Nat.zero_le _) (Nat.zero_le _) ?_
                              first
                                | exact ⟨rfl, hRel0⟩
                                | (exfalso; omega)
                                | (exfalso; simp (disch := omega) only [Int32.lt_iff_toInt_lt, Int32.le_iff_toInt_le, ← Int32.toInt_inj, Int32.reduceToInt, nI_toInt] at c1RephasMonth c5RephasMonth c1Ledwrite c4Ledwrite c7Ledwrite c10Ledwrite c14Ledwrite m2MDisIn m5MDisIn m2MDisIn_2 m5MDisIn_2 m2MDisIn_3 m5MDisIn_3; done)
                                | (exfalso; simp (disch := omega) only [Int32.lt_iff_toInt_lt, Int32.le_iff_toInt_le, ← Int32.toInt_inj, Int32.reduceToInt, nI_toInt] at c1RephasMonth c5RephasMonth c1Ledwrite c4Ledwrite c7Ledwrite c10Ledwrite c14Ledwrite m2MDisIn m5MDisIn m2MDisIn_2 m5MDisIn_2 m2MDisIn_3 m5MDisIn_3; omega)
                            · refine jr_ic rfl ?_
                              refine jr_goto rfl ?_
                              refine jr_zret rfl rfl rfl (Nat.zero_le _) (Nat.zero_le _) ?_
                              refine jr_if_eq rfl (fun z => absurd z (by decide)) (fun _ => ?_)
                              refine jr_aload rfl rfl ?_
                              refine jr_getI rfl rfl ?_
                              refine jr_ic rfl ?_
                              refine jr_icmp_ne rfl (fun m24 => ?_) (fun m24 => ?_)
                              · first
                                  | (exfalso; omega)
                                  | (exfalso; simp (disch := omega) only [Int32.lt_iff_toInt_lt, Int32.le_iff_toInt_le, ← Int32.toInt_inj, Int32.reduceToInt, nI_toInt] at c1RephasMonth c5RephasMonth c1Ledwrite c4Ledwrite c7Ledwrite c10Ledwrite c14Ledwrite m2MDisIn m5MDisIn m2MDisIn_2 m5MDisIn_2 m2MDisIn_3 m5MDisIn_3 m24; done)
                                  | (exfalso; simp (disch := omega) only [Int32.lt_iff_toInt_lt, Int32.le_iff_toInt_le, ← Int32.toInt_inj, Int32.reduceToInt, nI_toInt] at c1RephasMonth c5RephasMonth c1Ledwrite c4Ledwrite c7Ledwrite c10Ledwrite c14Ledwrite m2MDisIn m5MDisIn m2MDisIn_2 m5MDisIn_2 m2MDisIn_3 m5MDisIn_3 m24; omega)
                              · refine jr_ic rfl ?_
                                refine jr_iret rfl rfl (Nat.zero_le _) (Nat.zero_le _) ?_
                                first
                                  | exact ⟨rfl, hRel0⟩
                                  | (exfalso; omega)
                                  | (exfalso; simp (disch := omega) only [Int32.lt_iff_toInt_lt, Int32.le_iff_toInt_le, ← Int32.toInt_inj, Int32.reduceToInt, nI_toInt] at c1RephasMonth c5RephasMonth c1Ledwrite c4Ledwrite c7Ledwrite c10Ledwrite c14Ledwrite m2MDisIn m5MDisIn m2MDisIn_2 m5MDisIn_2 m2MDisIn_3 m5MDisIn_3 m24; done)
                                  | (exfalso; simp (disch := omega) only [Int32.lt_iff_toInt_lt, Int32.le_iff_toInt_le, ← Int32.toInt_inj, Int32.reduceToInt, nI_toInt] at c1RephasMonth c5RephasMonth c1Ledwrite c4Ledwrite c7Ledwrite c10Ledwrite c14Ledwrite m2MDisIn m5MDisIn m2MDisIn_2 m5MDisIn_2 m2MDisIn_3 m5MDisIn_3 m24; omega)

