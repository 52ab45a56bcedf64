set_option maxHeartbeats 800000 in
set_option maxRecDepth 100000 in
theorem lp_firstDay {d n0 : Nat} {Q : Option jx_V → jx_H → Prop} {h : jx_H} {m : Nat} {f : Nat → Int32} (j : Nat) (hm : m ≤ 300) (hf : ∀ j, j < m → jh_I h 31 0 j = f j) (hj : j ≤ m) (hQ : Q (some (jv_i (jw_sum f m))) h)  : jx_W (jm_Cal_firstDay, d, 0, 0, false, 0, n0) Q 0 0 4 [some (jv_r 1 0), some (jv_i (nI m)), some (jv_i (jw_sum f j)), some (jv_i (nI j))] [] h := by
  refine jr_iload rfl rfl ?_
  refine jr_iload rfl rfl ?_
  refine jr_icmp_ge rfl (fun c6 => ?_) (fun c6 => ?_)
  · refine jr_iload rfl rfl ?_
    refine jr_iret rfl rfl (Nat.zero_le _) (Nat.zero_le _) ?_
    have hj2 : j = m := by have := jn_le (show nI m ≤ nI j from c6) (by omega) (by omega); omega
    subst hj2
    exact hQ
  · have hj1 : j < m := jn_nle (show ¬ nI m ≤ nI j from c6) (by omega) (by omega)
    refine jr_iload rfl rfl ?_
    refine jr_aload rfl rfl ?_
    refine jr_getR rfl rfl rfl rfl (Or.inl rfl) ?_
    refine jr_alen (so := 1) (len := 512) rfl rfl rfl rfl ?_
    refine jr_icmp_ge rfl (fun z => absurd z (nI_ge (a := j) (b := 512) (by omega) (by decide))) (fun _ => ?_)
    refine jr_iload rfl rfl ?_
    refine jr_aload rfl rfl ?_
    refine jr_getR rfl rfl rfl rfl (Or.inl rfl) ?_
    refine jr_iload rfl rfl ?_
    refine jr_iald (len := 512) rfl rfl rfl (by omega) ?_
    rw [hf j hj1]
    refine jr_iadd rfl ?_
    refine jr_ist2 rfl rfl ?_
    refine jr_iinc3 rfl rfl ?_
    refine jr_goto rfl ?_
    rw [jn_S]
    exact lp_firstDay (j + 1) hm hf (by omega) hQ
termination_by m - j
decreasing_by all_goals omega

set_option maxHeartbeats 800000 in
set_option maxRecDepth 100000 in
theorem ev_firstDay {d : Nat} {h : jx_H} {Q : Option jx_V → jx_H → Prop} {m : Nat} {f : Nat → Int32} (hm : m ≤ 300) (hf : ∀ j, j < m → jh_I h 31 0 j = f j) (hQ : Q (some (jv_i (jw_sum f m))) h)  : jx_Ev jm_Cal_firstDay (d) 0 0 false 0 [jv_r 1 0, jv_i (nI m)] h Q := by
  show jx_W (jm_Cal_firstDay, d, 0, 0, false, 0, _) Q 0 0 0 [some (jv_r 1 0), some (jv_i (nI m)), none, none] [] _
  refine jr_ic rfl ?_
  refine jr_ist2 rfl rfl ?_
  refine jr_ic rfl ?_
  refine jr_ist3 rfl rfl ?_
  exact lp_firstDay 0 hm hf (Nat.zero_le _) hQ

set_option maxHeartbeats 800000 in
set_option maxRecDepth 100000 in
theorem lp_MD_number {d n0 : Nat} {Q : Option jx_V → jx_H → Prop} {h : jx_H} {m : Nat} {u v z x : Int32} (j : Nat) (hm : m ≤ 300) (hj : j ≤ m) (hQ : Q (some (jv_i (x + jw_sum (fun j => jA h (37 + j)) m))) h)  : jx_W (jm_MD_number, d, 0, 0, false, 1, n0) Q 0 0 55 [some (jv_r 11 0), some (jv_i u), some (jv_i v), some (jv_i z), some (jv_i (nI m)), some (jv_i (x + jw_sum (fun j => jA h (37 + j)) j)), some (jv_i (nI j))] [] h := by
  refine jr_iload rfl rfl ?_
  refine jr_iload rfl rfl ?_
  refine jr_icmp_ge rfl (fun c57 => ?_) (fun c57 => ?_)
  · refine jr_iload rfl rfl ?_
    refine jr_iret rfl rfl (Nat.zero_le _) (Nat.zero_le _) ?_
    have hj2 : j = m := by have := jn_le (show nI m ≤ nI j from c57) (by omega) (by omega); omega
    subst hj2
    exact hQ
  · have hj1 : j < m := jn_nle (show ¬ nI m ≤ nI j from c57) (by omega) (by omega)
    refine jr_iload rfl rfl ?_
    refine jr_aload rfl rfl ?_
    refine jr_getR rfl rfl rfl rfl (Or.inl rfl) ?_
    refine jr_ic rfl ?_
    refine jr_iload rfl rfl ?_
    refine jr_iadd rfl ?_
    refine jr_iald (len := 337) rfl rfl (jn_add (show _ = nI 37 from rfl) rfl) (by omega) ?_
    refine jr_iadd rfl ?_
    refine jr_ist5 rfl rfl ?_
    refine jr_iinc6 rfl rfl ?_
    refine jr_goto rfl ?_
    rw [jn_S, Int32.add_assoc]
    exact lp_MD_number (j + 1) hm (by omega) hQ
termination_by m - j
decreasing_by all_goals omega

set_option maxHeartbeats 800000 in
set_option maxRecDepth 100000 in
theorem pd_number {d : Nat} {hc hm : jx_H} {x u z : Int32} (hRel : jz_Rel hc hm) : jx_Ev jm_JV_number (d + 40) 0 0 false 0 [jv_r 10 0, jv_i x, jv_i u, jv_i z] hc (fun r hc' => jx_Ev jm_MD_number (d + 40) 0 0 false 1 [jv_r 11 0, jv_i x, jv_i u, jv_i z] hm (fun r' hm' => r = r' ∧ jz_Rel hc' hm')) := by
  have hRel0 := hRel
  obtain ⟨b, r, ⟨hw, hG, hr2, hto, hsp, hR, hA, hL⟩, hTa, hFa, hLy, hTi, hLe, hBo, hAc, hWo⟩ := hRel
  have hb2 := hw.2.1
  have hnm := hw.2.2.1.1
  have hnm5 := hnm.2
  have km1 : (jh_I hc 7 r 0).toInt = (jz_nm hm b : Int) := by rw [hR.1]; exact (congrArg Int32.toInt hnm.1).trans (nI_toInt (by omega))
  have km2 : (jh_I hm 66 0 b).toInt = (jz_nm hm b : Int) := (congrArg Int32.toInt hnm.1).trans (nI_toInt (by omega))
  have km3 : (jh_I hm 66 0 b - 1).toInt = (jz_nm hm b : Int) - 1 := by rw [Int32.toInt_sub, km2, show (1 : Int32).toInt = 1 from rfl]; exact jn_sm (by omega) (by omega)
  obtain ⟨-, w, g1, g2, g3, g4⟩ := id hG
  have hL2 : ∀ j, j < w → jh_I hc 31 0 j = jA hm (37 + j) := fun j hj => hL j (by rw [jn_1 g1 (by omega)]; exact hj)
  have q1 := jz_gi (show jh_I hc 1 0 2 = nI w from hA.2.1.trans g1) (by omega)
  have q2 := jz_gi (show jh_I hm 98 0 0 = nI w from g1) (by omega)
  rcases nI_dec' x 0 300 (by decide) with ⟨y, rfl, -, hy, hy2⟩ | hy
  · rcases nI_dec u (jz_nm hm b) (by omega) with ⟨m, rfl, hm1, hm2⟩ | hm1
    · have hyn : y * jz_nm hm b ≤ 300 * 6 := Nat.mul_le_mul hy hnm5
      have ek : nI y * jh_I hc 7 r 0 + nI m = nI (y * jz_nm hm b + m) := by rw [show jh_I hc 7 r 0 = nI (jz_nm hm b) from hR.1.trans hnm.1, pk_mul, nI_add]
      have ek2 : nI y * jh_I hm 66 0 b + nI m = nI (y * jz_nm hm b + m) := by rw [hnm.1, pk_mul, nI_add]
      obtain ⟨k, hk⟩ : ∃ k, k = y * jz_nm hm b + m := ⟨_, rfl⟩
      rw [← hk] at ek ek2
      have kk : (nI k).toInt = k := nI_toInt (by omega)
      rcases Nat.lt_or_ge k w with hkw | hkw
      · have e31 : jh_I hc 31 0 k = jh_I hm 98 0 (37 + k) := hL2 k hkw
        show jx_W (jm_JV_number, d + 40, 0, 0, false, 0, _) _ 0 0 0 [some (jv_r 10 0), some (jv_i (nI y)), some (jv_i (nI m)), some (jv_i z), none] [] _
        refine jr_iload rfl rfl ?_
        refine jr_if_lt rfl (fun c1 => ?_) (fun c1 => ?_)
        · refine jr_ic rfl ?_
          refine jr_iret rfl rfl (Nat.zero_le _) (Nat.zero_le _) ?_
          show jx_W (jm_MD_number, d + 40, 0, 0, false, 1, _) _ 0 0 0 [some _, some _, some _, some _, none, none, none] [] _
          refine jr_aload rfl rfl ?_
          refine jr_cv0 (mc' := 0) (ms' := 0) rfl jm_MD_hasMonths_n jm_MD_hasMonths_f rfl rfl rfl rfl rfl rfl rfl (Nat.zero_le _) (Nat.zero_le _) ?_
          show jx_W (jm_MD_hasMonths, _, _, _, _, _, _) _ 0 0 0 [some _] [] _
          refine jr_aload rfl rfl ?_
          refine jr_getR rfl rfl rfl rfl (Or.inl rfl) ?_
          refine jr_aload rfl rfl ?_
          refine jr_getI rfl rfl ?_
          refine jr_iald (len := 2) rfl rfl hw.1 (by omega) ?_
          refine jr_if_le rfl (fun m5MDhasMonths => ?_) (fun m5MDhasMonths => ?_)
          · refine jr_ic rfl ?_
            refine jr_zret rfl rfl rfl (Nat.zero_le _) (Nat.zero_le _) ?_
            refine jr_if_eq rfl (fun _ => ?_) (fun z => absurd (by decide) z)
            refine jr_ic rfl ?_
            refine jr_iret rfl rfl (Nat.zero_le _) (Nat.zero_le _) ?_
            first
              | exact ⟨rfl, hRel0⟩
              | (exfalso; omega)
              | (exfalso; simp (disch := omega) only [Int32.lt_iff_toInt_lt, Int32.le_iff_toInt_le, ← Int32.toInt_inj, Int32.reduceToInt, nI_toInt] at c1 m5MDhasMonths; done)
              | (exfalso; simp (disch := omega) only [Int32.lt_iff_toInt_lt, Int32.le_iff_toInt_le, ← Int32.toInt_inj, Int32.reduceToInt, nI_toInt] at c1 m5MDhasMonths; omega)
          · refine jr_ic rfl ?_
            refine jr_goto rfl ?_
            refine jr_zret rfl rfl rfl (Nat.zero_le _) (Nat.zero_le _) ?_
            refine jr_if_eq rfl (fun z => absurd z (by decide)) (fun _ => ?_)
            refine jr_iload rfl rfl ?_
            refine jr_if_lt rfl (fun m4 => ?_) (fun m4 => ?_)
            · refine jr_ic rfl ?_
              refine jr_iret rfl rfl (Nat.zero_le _) (Nat.zero_le _) ?_
              first
                | exact ⟨rfl, hRel0⟩
                | (exfalso; omega)
                | (exfalso; simp (disch := omega) only [Int32.lt_iff_toInt_lt, Int32.le_iff_toInt_le, ← Int32.toInt_inj, Int32.reduceToInt, nI_toInt] at c1 m5MDhasMonths m4; done)
                | (exfalso; simp (disch := omega) only [Int32.lt_iff_toInt_lt, Int32.le_iff_toInt_le, ← Int32.toInt_inj, Int32.reduceToInt, nI_toInt] at c1 m5MDhasMonths m4; omega)
            · refine jr_iload rfl rfl ?_
              refine jr_ic rfl ?_
              refine jr_icmp_gt rfl (fun m7 => ?_) (fun m7 => ?_)
              · refine jr_ic rfl ?_
                refine jr_iret rfl rfl (Nat.zero_le _) (Nat.zero_le _) ?_
                first
                  | exact ⟨rfl, hRel0⟩
                  | (exfalso; omega)
                  | (exfalso; simp (disch := omega) only [Int32.lt_iff_toInt_lt, Int32.le_iff_toInt_le, ← Int32.toInt_inj, Int32.reduceToInt, nI_toInt] at c1 m5MDhasMonths m4 m7; done)
                  | (exfalso; simp (disch := omega) only [Int32.lt_iff_toInt_lt, Int32.le_iff_toInt_le, ← Int32.toInt_inj, Int32.reduceToInt, nI_toInt] at c1 m5MDhasMonths m4 m7; omega)
              · refine jr_iload rfl rfl ?_
                refine jr_ic rfl ?_
                refine jr_aload rfl rfl ?_
                refine jr_getR rfl rfl rfl rfl (Or.inl rfl) ?_
                refine jr_aload rfl rfl ?_
                refine jr_getI rfl rfl ?_
                refine jr_iald (len := 2) rfl rfl hw.1 (by omega) ?_
                refine jr_ic rfl ?_
                refine jr_isub rfl ?_
                refine jr_cs3 (mc' := 0) (ms' := 0) rfl jm_MD_isIn_n jm_MD_isIn_f rfl rfl rfl rfl rfl (Nat.zero_le _) (Nat.zero_le _) ?_
                show jx_W (jm_MD_isIn, _, _, _, _, _, _) _ 0 0 0 [some _, some _, some _] [] _
                refine jr_iload rfl rfl ?_
                refine jr_iload rfl rfl ?_
                refine jr_icmp_lt rfl (fun m2MDisIn => ?_) (fun m2MDisIn => ?_)
                · refine jr_ic rfl ?_
                  refine jr_zret rfl rfl rfl (Nat.zero_le _) (Nat.zero_le _) ?_
                  refine jr_if_ne rfl (fun z => absurd (by decide) z) (fun _ => ?_)
                  refine jr_ic rfl ?_
                  refine jr_iret rfl rfl (Nat.zero_le _) (Nat.zero_le _) ?_
                  first
                    | exact ⟨rfl, hRel0⟩
                    | (exfalso; omega)
                    | (exfalso; simp (disch := omega) only [Int32.lt_iff_toInt_lt, Int32.le_iff_toInt_le, ← Int32.toInt_inj, Int32.reduceToInt, nI_toInt] at c1 m5MDhasMonths m4 m7 m2MDisIn; done)
                    | (exfalso; simp (disch := omega) only [Int32.lt_iff_toInt_lt, Int32.le_iff_toInt_le, ← Int32.toInt_inj, Int32.reduceToInt, nI_toInt] at c1 m5MDhasMonths m4 m7 m2MDisIn; omega)
                · refine jr_iload rfl rfl ?_
                  refine jr_iload rfl rfl ?_
                  refine jr_icmp_gt rfl (fun m5MDisIn => ?_) (fun m5MDisIn => ?_)
                  · refine jr_ic rfl ?_
                    refine jr_zret rfl rfl rfl (Nat.zero_le _) (Nat.zero_le _) ?_
                    refine jr_if_ne rfl (fun z => absurd (by decide) z) (fun _ => ?_)
                    refine jr_ic rfl ?_
                    refine jr_iret rfl rfl (Nat.zero_le _) (Nat.zero_le _) ?_
                    first
                      | exact ⟨rfl, hRel0⟩
                      | (exfalso; omega)
                      | (exfalso; simp (disch := omega) only [Int32.lt_iff_toInt_lt, Int32.le_iff_toInt_le, ← Int32.toInt_inj, Int32.reduceToInt, nI_toInt] at c1 m5MDhasMonths m4 m7 m2MDisIn m5MDisIn; done)
                      | (exfalso; simp (disch := omega) only [Int32.lt_iff_toInt_lt, Int32.le_iff_toInt_le, ← Int32.toInt_inj, Int32.reduceToInt, nI_toInt] at c1 m5MDhasMonths m4 m7 m2MDisIn m5MDisIn; omega)
                  · refine jr_ic rfl ?_
                    refine jr_goto rfl ?_
                    refine jr_zret rfl rfl rfl (Nat.zero_le _) (Nat.zero_le _) ?_
                    refine jr_if_ne rfl (fun _ => ?_) (fun z => absurd z (by decide))
                    refine jr_iload rfl rfl ?_
                    refine jr_aload rfl rfl ?_
                    refine jr_getR rfl rfl rfl rfl (Or.inl rfl) ?_
                    refine jr_aload rfl rfl ?_
                    refine jr_getI rfl rfl ?_
                    refine jr_iald (len := 2) rfl rfl hw.1 (by omega) ?_
                    refine jr_imul rfl ?_
                    refine jr_iload rfl rfl ?_
                    refine jr_iadd rfl ?_
                    rw [ek2]
                    refine jr_ist4 rfl rfl ?_
                    refine jr_iload rfl rfl ?_
                    refine jr_aload rfl rfl ?_
                    refine jr_getR rfl rfl rfl rfl (Or.inl rfl) ?_
                    refine jr_ic rfl ?_
                    refine jr_iald (len := 337) rfl rfl (show _ = nI 0 from rfl) (by decide) ?_
                    refine jr_icmp_ge rfl (fun z => absurd z (fun z => nI_ge hkw (by omega) ((show jh_I hm 98 0 0 = nI w from g1) ▸ z))) (fun _ => ?_)
                    refine jr_iload rfl rfl ?_
                    refine jr_ic rfl ?_
                    refine jr_aload rfl rfl ?_
                    refine jr_getR rfl rfl rfl rfl (Or.inl rfl) ?_
                    refine jr_ic rfl ?_
                    refine jr_iload rfl rfl ?_
                    refine jr_iadd rfl ?_
                    refine jr_iald (len := 337) rfl rfl (jn_add (show _ = nI 37 from rfl) rfl) (by omega) ?_
                    refine jr_cs3 (mc' := 0) (ms' := 0) rfl jm_MD_isIn_n jm_MD_isIn_f rfl rfl rfl rfl rfl (Nat.zero_le _) (Nat.zero_le _) ?_
                    show jx_W (jm_MD_isIn, _, _, _, _, _, _) _ 0 0 0 [some _, some _, some _] [] _
                    refine jr_iload rfl rfl ?_
                    refine jr_iload rfl rfl ?_
                    refine jr_icmp_lt rfl (fun m2MDisIn_2 => ?_) (fun m2MDisIn_2 => ?_)
                    · refine jr_ic rfl ?_
                      refine jr_zret rfl rfl rfl (Nat.zero_le _) (Nat.zero_le _) ?_
                      refine jr_if_ne rfl (fun z => absurd (by decide) z) (fun _ => ?_)
                      refine jr_ic rfl ?_
                      refine jr_iret rfl rfl (Nat.zero_le _) (Nat.zero_le _) ?_
                      first
                        | exact ⟨rfl, hRel0⟩
                        | (exfalso; omega)
                        | (exfalso; simp (disch := omega) only [Int32.lt_iff_toInt_lt, Int32.le_iff_toInt_le, ← Int32.toInt_inj, Int32.reduceToInt, nI_toInt] at c1 m5MDhasMonths m4 m7 m2MDisIn m5MDisIn m2MDisIn_2; done)
                        | (exfalso; simp (disch := omega) only [Int32.lt_iff_toInt_lt, Int32.le_iff_toInt_le, ← Int32.toInt_inj, Int32.reduceToInt, nI_toInt] at c1 m5MDhasMonths m4 m7 m2MDisIn m5MDisIn m2MDisIn_2; omega)
                    · refine jr_iload rfl rfl ?_
                      refine jr_iload rfl rfl ?_
                      refine jr_icmp_gt rfl (fun m5MDisIn_2 => ?_) (fun m5MDisIn_2 => ?_)
                      · refine jr_ic rfl ?_
                        refine jr_zret rfl rfl rfl (Nat.zero_le _) (Nat.zero_le _) ?_
                        refine jr_if_ne rfl (fun z => absurd (by decide) z) (fun _ => ?_)
                        refine jr_ic rfl ?_
                        refine jr_iret rfl rfl (Nat.zero_le _) (Nat.zero_le _) ?_
                        first
                          | exact ⟨rfl, hRel0⟩
                          | (exfalso; omega)
                          | (exfalso; simp (disch := omega) only [Int32.lt_iff_toInt_lt, Int32.le_iff_toInt_le, ← Int32.toInt_inj, Int32.reduceToInt, nI_toInt] at c1 m5MDhasMonths m4 m7 m2MDisIn m5MDisIn m2MDisIn_2 m5MDisIn_2; done)
                          | (exfalso; simp (disch := omega) only [Int32.lt_iff_toInt_lt, Int32.le_iff_toInt_le, ← Int32.toInt_inj, Int32.reduceToInt, nI_toInt] at c1 m5MDhasMonths m4 m7 m2MDisIn m5MDisIn m2MDisIn_2 m5MDisIn_2; omega)
                      · refine jr_ic rfl ?_
                        refine jr_goto rfl ?_
                        refine jr_zret rfl rfl rfl (Nat.zero_le _) (Nat.zero_le _) ?_
                        refine jr_if_ne rfl (fun _ => ?_) (fun z => absurd z (by decide))
                        refine jr_iload rfl rfl ?_
                        refine jr_ic rfl ?_
                        refine jr_isub rfl ?_
                        refine jr_ist5 rfl rfl ?_
                        refine jr_ic rfl ?_
                        refine jr_ist6 rfl rfl ?_
                        first
                          | (exfalso; omega)
                          | (exfalso; simp (disch := omega) only [Int32.lt_iff_toInt_lt, Int32.le_iff_toInt_le, ← Int32.toInt_inj, Int32.reduceToInt, nI_toInt] at c1 m5MDhasMonths m4 m7 m2MDisIn m5MDisIn m2MDisIn_2 m5MDisIn_2; done)
                          | (exfalso; simp (disch := omega) only [Int32.lt_iff_toInt_lt, Int32.le_iff_toInt_le, ← Int32.toInt_inj, Int32.reduceToInt, nI_toInt] at c1 m5MDhasMonths m4 m7 m2MDisIn m5MDisIn m2MDisIn_2 m5MDisIn_2; omega)
        · refine jr_iload rfl rfl ?_
          refine jr_ic rfl ?_
          refine jr_icmp_gt rfl (fun c4 => ?_) (fun c4 => ?_)
          · refine jr_ic rfl ?_
            refine jr_iret rfl rfl (Nat.zero_le _) (Nat.zero_le _) ?_
            show jx_W (jm_MD_number, d + 40, 0, 0, false, 1, _) _ 0 0 0 [some _, some _, some _, some _, none, none, none] [] _
            refine jr_aload rfl rfl ?_
            refine jr_cv0 (mc' := 0) (ms' := 0) rfl jm_MD_hasMonths_n jm_MD_hasMonths_f rfl rfl rfl rfl rfl rfl rfl (Nat.zero_le _) (Nat.zero_le _) ?_
            show jx_W (jm_MD_hasMonths, _, _, _, _, _, _) _ 0 0 0 [some _] [] _
            refine jr_aload rfl rfl ?_
            refine jr_getR rfl rfl rfl rfl (Or.inl rfl) ?_
            refine jr_aload rfl rfl ?_
            refine jr_getI rfl rfl ?_
            refine jr_iald (len := 2) rfl rfl hw.1 (by omega) ?_
            refine jr_if_le rfl (fun m5MDhasMonths => ?_) (fun m5MDhasMonths => ?_)
            · refine jr_ic rfl ?_
              refine jr_zret rfl rfl rfl (Nat.zero_le _) (Nat.zero_le _) ?_
              refine jr_if_eq rfl (fun _ => ?_) (fun z => absurd (by decide) z)
              refine jr_ic rfl ?_
              refine jr_iret rfl rfl (Nat.zero_le _) (Nat.zero_le _) ?_
              first
                | exact ⟨rfl, hRel0⟩
                | (exfalso; omega)
                | (exfalso; simp (disch := omega) only [Int32.lt_iff_toInt_lt, Int32.le_iff_toInt_le, ← Int32.toInt_inj, Int32.reduceToInt, nI_toInt] at c1 c4 m5MDhasMonths; done)
                | (exfalso; simp (disch := omega) only [Int32.lt_iff_toInt_lt, Int32.le_iff_toInt_le, ← Int32.toInt_inj, Int32.reduceToInt, nI_toInt] at c1 c4 m5MDhasMonths; omega)
            · refine jr_ic rfl ?_
              refine jr_goto rfl ?_
              refine jr_zret rfl rfl rfl (Nat.zero_le _) (Nat.zero_le _) ?_
              refine jr_if_eq rfl (fun z => absurd z (by decide)) (fun _ => ?_)
              refine jr_iload rfl rfl ?_
              refine jr_if_lt rfl (fun m4 => ?_) (fun m4 => ?_)
              · refine jr_ic rfl ?_
                refine jr_iret rfl rfl (Nat.zero_le _) (Nat.zero_le _) ?_
                first
                  | exact ⟨rfl, hRel0⟩
                  | (exfalso; omega)
                  | (exfalso; simp (disch := omega) only [Int32.lt_iff_toInt_lt, Int32.le_iff_toInt_le, ← Int32.toInt_inj, Int32.reduceToInt, nI_toInt] at c1 c4 m5MDhasMonths m4; done)
                  | (exfalso; simp (disch := omega) only [Int32.lt_iff_toInt_lt, Int32.le_iff_toInt_le, ← Int32.toInt_inj, Int32.reduceToInt, nI_toInt] at c1 c4 m5MDhasMonths m4; omega)
              · refine jr_iload rfl rfl ?_
                refine jr_ic rfl ?_
                refine jr_icmp_gt rfl (fun m7 => ?_) (fun m7 => ?_)
                · refine jr_ic rfl ?_
                  refine jr_iret rfl rfl (Nat.zero_le _) (Nat.zero_le _) ?_
                  first
                    | exact ⟨rfl, hRel0⟩
                    | (exfalso; omega)
                    | (exfalso; simp (disch := omega) only [Int32.lt_iff_toInt_lt, Int32.le_iff_toInt_le, ← Int32.toInt_inj, Int32.reduceToInt, nI_toInt] at c1 c4 m5MDhasMonths m4 m7; done)
                    | (exfalso; simp (disch := omega) only [Int32.lt_iff_toInt_lt, Int32.le_iff_toInt_le, ← Int32.toInt_inj, Int32.reduceToInt, nI_toInt] at c1 c4 m5MDhasMonths m4 m7; omega)
                · refine jr_iload rfl rfl ?_
                  refine jr_ic rfl ?_
                  refine jr_aload rfl rfl ?_
                  refine jr_getR rfl rfl rfl rfl (Or.inl rfl) ?_
                  refine jr_aload rfl rfl ?_
                  refine jr_getI rfl rfl ?_
                  refine jr_iald (len := 2) rfl rfl hw.1 (by omega) ?_
                  refine jr_ic rfl ?_
                  refine jr_isub rfl ?_
                  refine jr_cs3 (mc' := 0) (ms' := 0) rfl jm_MD_isIn_n jm_MD_isIn_f rfl rfl rfl rfl rfl (Nat.zero_le _) (Nat.zero_le _) ?_
                  show jx_W (jm_MD_isIn, _, _, _, _, _, _) _ 0 0 0 [some _, some _, some _] [] _
                  refine jr_iload rfl rfl ?_
                  refine jr_iload rfl rfl ?_
                  refine jr_icmp_lt rfl (fun m2MDisIn => ?_) (fun m2MDisIn => ?_)
                  · refine jr_ic rfl ?_
                    refine jr_zret rfl rfl rfl (Nat.zero_le _) (Nat.zero_le _) ?_
                    refine jr_if_ne rfl (fun z => absurd (by decide) z) (fun _ => ?_)
                    refine jr_ic rfl ?_
                    refine jr_iret rfl rfl (Nat.zero_le _) (Nat.zero_le _) ?_
                    first
                      | exact ⟨rfl, hRel0⟩
                      | (exfalso; omega)
                      | (exfalso; simp (disch := omega) only [Int32.lt_iff_toInt_lt, Int32.le_iff_toInt_le, ← Int32.toInt_inj, Int32.reduceToInt, nI_toInt] at c1 c4 m5MDhasMonths m4 m7 m2MDisIn; done)
                      | (exfalso; simp (disch := omega) only [Int32.lt_iff_toInt_lt, Int32.le_iff_toInt_le, ← Int32.toInt_inj, Int32.reduceToInt, nI_toInt] at c1 c4 m5MDhasMonths m4 m7 m2MDisIn; omega)
                  · refine jr_iload rfl rfl ?_
                    refine jr_iload rfl rfl ?_
                    refine jr_icmp_gt rfl (fun m5MDisIn => ?_) (fun m5MDisIn => ?_)
                    · refine jr_ic rfl ?_
                      refine jr_zret rfl rfl rfl (Nat.zero_le _) (Nat.zero_le _) ?_
                      refine jr_if_ne rfl (fun z => absurd (by decide) z) (fun _ => ?_)
                      refine jr_ic rfl ?_
                      refine jr_iret rfl rfl (Nat.zero_le _) (Nat.zero_le _) ?_
                      first
                        | exact ⟨rfl, hRel0⟩
                        | (exfalso; omega)
                        | (exfalso; simp (disch := omega) only [Int32.lt_iff_toInt_lt, Int32.le_iff_toInt_le, ← Int32.toInt_inj, Int32.reduceToInt, nI_toInt] at c1 c4 m5MDhasMonths m4 m7 m2MDisIn m5MDisIn; done)
                        | (exfalso; simp (disch := omega) only [Int32.lt_iff_toInt_lt, Int32.le_iff_toInt_le, ← Int32.toInt_inj, Int32.reduceToInt, nI_toInt] at c1 c4 m5MDhasMonths m4 m7 m2MDisIn m5MDisIn; omega)
                    · refine jr_ic rfl ?_
                      refine jr_goto rfl ?_
                      refine jr_zret rfl rfl rfl (Nat.zero_le _) (Nat.zero_le _) ?_
                      refine jr_if_ne rfl (fun _ => ?_) (fun z => absurd z (by decide))
                      refine jr_iload rfl rfl ?_
                      refine jr_aload rfl rfl ?_
                      refine jr_getR rfl rfl rfl rfl (Or.inl rfl) ?_
                      refine jr_aload rfl rfl ?_
                      refine jr_getI rfl rfl ?_
                      refine jr_iald (len := 2) rfl rfl hw.1 (by omega) ?_
                      refine jr_imul rfl ?_
                      refine jr_iload rfl rfl ?_
                      refine jr_iadd rfl ?_
                      rw [ek2]
                      refine jr_ist4 rfl rfl ?_
                      refine jr_iload rfl rfl ?_
                      refine jr_aload rfl rfl ?_
                      refine jr_getR rfl rfl rfl rfl (Or.inl rfl) ?_
                      refine jr_ic rfl ?_
                      refine jr_iald (len := 337) rfl rfl (show _ = nI 0 from rfl) (by decide) ?_
                      refine jr_icmp_ge rfl (fun z => absurd z (fun z => nI_ge hkw (by omega) ((show jh_I hm 98 0 0 = nI w from g1) ▸ z))) (fun _ => ?_)
                      refine jr_iload rfl rfl ?_
                      refine jr_ic rfl ?_
                      refine jr_aload rfl rfl ?_
                      refine jr_getR rfl rfl rfl rfl (Or.inl rfl) ?_
                      refine jr_ic rfl ?_
                      refine jr_iload rfl rfl ?_
                      refine jr_iadd rfl ?_
                      refine jr_iald (len := 337) rfl rfl (jn_add (show _ = nI 37 from rfl) rfl) (by omega) ?_
                      refine jr_cs3 (mc' := 0) (ms' := 0) rfl jm_MD_isIn_n jm_MD_isIn_f rfl rfl rfl rfl rfl (Nat.zero_le _) (Nat.zero_le _) ?_
                      show jx_W (jm_MD_isIn, _, _, _, _, _, _) _ 0 0 0 [some _, some _, some _] [] _
                      refine jr_iload rfl rfl ?_
                      refine jr_iload rfl rfl ?_
                      refine jr_icmp_lt rfl (fun m2MDisIn_2 => ?_) (fun m2MDisIn_2 => ?_)
                      · refine jr_ic rfl ?_
                        refine jr_zret rfl rfl rfl (Nat.zero_le _) (Nat.zero_le _) ?_
                        refine jr_if_ne rfl (fun z => absurd (by decide) z) (fun _ => ?_)
                        refine jr_ic rfl ?_
                        refine jr_iret rfl rfl (Nat.zero_le _) (Nat.zero_le _) ?_
                        first
                          | exact ⟨rfl, hRel0⟩
                          | (exfalso; omega)
                          | (exfalso; simp (disch := omega) only [Int32.lt_iff_toInt_lt, Int32.le_iff_toInt_le, ← Int32.toInt_inj, Int32.reduceToInt, nI_toInt] at c1 c4 m5MDhasMonths m4 m7 m2MDisIn m5MDisIn m2MDisIn_2; done)
                          | (exfalso; simp (disch := omega) only [Int32.lt_iff_toInt_lt, Int32.le_iff_toInt_le, ← Int32.toInt_inj, Int32.reduceToInt, nI_toInt] at c1 c4 m5MDhasMonths m4 m7 m2MDisIn m5MDisIn m2MDisIn_2; omega)
                      · refine jr_iload rfl rfl ?_
                        refine jr_iload rfl rfl ?_
                        refine jr_icmp_gt rfl (fun m5MDisIn_2 => ?_) (fun m5MDisIn_2 => ?_)
                        · refine jr_ic rfl ?_
                          refine jr_zret rfl rfl rfl (Nat.zero_le _) (Nat.zero_le _) ?_
                          refine jr_if_ne rfl (fun z => absurd (by decide) z) (fun _ => ?_)
                          refine jr_ic rfl ?_
                          refine jr_iret rfl rfl (Nat.zero_le _) (Nat.zero_le _) ?_
                          first
                            | exact ⟨rfl, hRel0⟩
                            | (exfalso; omega)
                            | (exfalso; simp (disch := omega) only [Int32.lt_iff_toInt_lt, Int32.le_iff_toInt_le, ← Int32.toInt_inj, Int32.reduceToInt, nI_toInt] at c1 c4 m5MDhasMonths m4 m7 m2MDisIn m5MDisIn m2MDisIn_2 m5MDisIn_2; done)
                            | (exfalso; simp (disch := omega) only [Int32.lt_iff_toInt_lt, Int32.le_iff_toInt_le, ← Int32.toInt_inj, Int32.reduceToInt, nI_toInt] at c1 c4 m5MDhasMonths m4 m7 m2MDisIn m5MDisIn m2MDisIn_2 m5MDisIn_2; omega)
                        · refine jr_ic rfl ?_
                          refine jr_goto rfl ?_
                          refine jr_zret rfl rfl rfl (Nat.zero_le _) (Nat.zero_le _) ?_
                          refine jr_if_ne rfl (fun _ => ?_) (fun z => absurd z (by decide))
                          refine jr_iload rfl rfl ?_
                          refine jr_ic rfl ?_
                          refine jr_isub rfl ?_
                          refine jr_ist5 rfl rfl ?_
                          refine jr_ic rfl ?_
                          refine jr_ist6 rfl rfl ?_
                          first
                            | (exfalso; omega)
                            | (exfalso; simp (disch := omega) only [Int32.lt_iff_toInt_lt, Int32.le_iff_toInt_le, ← Int32.toInt_inj, Int32.reduceToInt, nI_toInt] at c1 c4 m5MDhasMonths m4 m7 m2MDisIn m5MDisIn m2MDisIn_2 m5MDisIn_2; done)
                            | (exfalso; simp (disch := omega) only [Int32.lt_iff_toInt_lt, Int32.le_iff_toInt_le, ← Int32.toInt_inj, Int32.reduceToInt, nI_toInt] at c1 c4 m5MDhasMonths m4 m7 m2MDisIn m5MDisIn m2MDisIn_2 m5MDisIn_2; omega)
          · refine jr_aload rfl rfl ?_
            refine jr_getM rfl rfl rfl rfl hto ?_
            refine jr_iload rfl rfl ?_
            refine jr_cv1 (mc' := 0) (ms' := 0) rfl jm_Rep_hasMonth_n jm_Rep_hasMonth_f rfl rfl rfl rfl rfl rfl rfl (Nat.zero_le _) (Nat.zero_le _) ?_
            show jx_W (jm_Rep_hasMonth, _, _, _, _, _, _) _ 0 0 0 [some _, some _] [] _
            refine jr_iload rfl rfl ?_
            refine jr_if_lt rfl (fun c1RephasMonth => ?_) (fun c1RephasMonth => ?_)
            · refine jr_ic rfl ?_
              refine jr_zret rfl rfl rfl (Nat.zero_le _) (Nat.zero_le _) ?_
              refine jr_if_ne rfl (fun z => absurd (by decide) z) (fun _ => ?_)
              refine jr_ic rfl ?_
              refine jr_iret rfl rfl (Nat.zero_le _) (Nat.zero_le _) ?_
              show jx_W (jm_MD_number, d + 40, 0, 0, false, 1, _) _ 0 0 0 [some _, some _, some _, some _, none, none, none] [] _
              refine jr_aload rfl rfl ?_
              refine jr_cv0 (mc' := 0) (ms' := 0) rfl jm_MD_hasMonths_n jm_MD_hasMonths_f rfl rfl rfl rfl rfl rfl rfl (Nat.zero_le _) (Nat.zero_le _) ?_
              show jx_W (jm_MD_hasMonths, _, _, _, _, _, _) _ 0 0 0 [some _] [] _
              refine jr_aload rfl rfl ?_
              refine jr_getR rfl rfl rfl rfl (Or.inl rfl) ?_
              refine jr_aload rfl rfl ?_
              refine jr_getI rfl rfl ?_
              refine jr_iald (len := 2) rfl rfl hw.1 (by omega) ?_
              refine jr_if_le rfl (fun m5MDhasMonths => ?_) (fun m5MDhasMonths => ?_)
              · refine jr_ic rfl ?_
                refine jr_zret rfl rfl rfl (Nat.zero_le _) (Nat.zero_le _) ?_
                refine jr_if_eq rfl (fun _ => ?_) (fun z => absurd (by decide) z)
                refine jr_ic rfl ?_
                refine jr_iret rfl rfl (Nat.zero_le _) (Nat.zero_le _) ?_
                first
                  | exact ⟨rfl, hRel0⟩
                  | (exfalso; omega)
                  | (exfalso; simp (disch := omega) only [Int32.lt_iff_toInt_lt, Int32.le_iff_toInt_le, ← Int32.toInt_inj, Int32.reduceToInt, nI_toInt] at c1 c4 c1RephasMonth m5MDhasMonths; done)
                  | (exfalso; simp (disch := omega) only [Int32.lt_iff_toInt_lt, Int32.le_iff_toInt_le, ← Int32.toInt_inj, Int32.reduceToInt, nI_toInt] at c1 c4 c1RephasMonth m5MDhasMonths; omega)
              · refine jr_ic rfl ?_
                refine jr_goto rfl ?_
                refine jr_zret rfl rfl rfl (Nat.zero_le _) (Nat.zero_le _) ?_
                refine jr_if_eq rfl (fun z => absurd z (by decide)) (fun _ => ?_)
                refine jr_iload rfl rfl ?_
                refine jr_if_lt rfl (fun m4 => ?_) (fun m4 => ?_)
                · refine jr_ic rfl ?_
                  refine jr_iret rfl rfl (Nat.zero_le _) (Nat.zero_le _) ?_
                  first
                    | exact ⟨rfl, hRel0⟩
                    | (exfalso; omega)
                    | (exfalso; simp (disch := omega) only [Int32.lt_iff_toInt_lt, Int32.le_iff_toInt_le, ← Int32.toInt_inj, Int32.reduceToInt, nI_toInt] at c1 c4 c1RephasMonth m5MDhasMonths m4; done)
                    | (exfalso; simp (disch := omega) only [Int32.lt_iff_toInt_lt, Int32.le_iff_toInt_le, ← Int32.toInt_inj, Int32.reduceToInt, nI_toInt] at c1 c4 c1RephasMonth m5MDhasMonths m4; omega)
                · refine jr_iload rfl rfl ?_
                  refine jr_ic rfl ?_
                  refine jr_icmp_gt rfl (fun m7 => ?_) (fun m7 => ?_)
                  · refine jr_ic rfl ?_
                    refine jr_iret rfl rfl (Nat.zero_le _) (Nat.zero_le _) ?_
                    first
                      | exact ⟨rfl, hRel0⟩
                      | (exfalso; omega)
                      | (exfalso; simp (disch := omega) only [Int32.lt_iff_toInt_lt, Int32.le_iff_toInt_le, ← Int32.toInt_inj, Int32.reduceToInt, nI_toInt] at c1 c4 c1RephasMonth m5MDhasMonths m4 m7; done)
                      | (exfalso; simp (disch := omega) only [Int32.lt_iff_toInt_lt, Int32.le_iff_toInt_le, ← Int32.toInt_inj, Int32.reduceToInt, nI_toInt] at c1 c4 c1RephasMonth m5MDhasMonths m4 m7; omega)
                  · refine jr_iload rfl rfl ?_
                    refine jr_ic rfl ?_
                    refine jr_aload rfl rfl ?_
                    refine jr_getR rfl rfl rfl rfl (Or.inl rfl) ?_
                    refine jr_aload rfl rfl ?_
                    refine jr_getI rfl rfl ?_
                    refine jr_iald (len := 2) rfl rfl hw.1 (by omega) ?_
                    refine jr_ic rfl ?_
                    refine jr_isub rfl ?_
                    refine jr_cs3 (mc' := 0) (ms' := 0) rfl jm_MD_isIn_n jm_MD_isIn_f rfl rfl rfl rfl rfl (Nat.zero_le _) (Nat.zero_le _) ?_
                    show jx_W (jm_MD_isIn, _, _, _, _, _, _) _ 0 0 0 [some _, some _, some _] [] _
                    refine jr_iload rfl rfl ?_
                    refine jr_iload rfl rfl ?_
                    refine jr_icmp_lt rfl (fun m2MDisIn => ?_) (fun m2MDisIn => ?_)
                    · refine jr_ic rfl ?_
                      refine jr_zret rfl rfl rfl (Nat.zero_le _) (Nat.zero_le _) ?_
                      refine jr_if_ne rfl (fun z => absurd (by decide) z) (fun _ => ?_)
                      refine jr_ic rfl ?_
                      refine jr_iret rfl rfl (Nat.zero_le _) (Nat.zero_le _) ?_
                      first
                        | exact ⟨rfl, hRel0⟩
                        | (exfalso; omega)
                        | (exfalso; simp (disch := omega) only [Int32.lt_iff_toInt_lt, Int32.le_iff_toInt_le, ← Int32.toInt_inj, Int32.reduceToInt, nI_toInt] at c1 c4 c1RephasMonth m5MDhasMonths m4 m7 m2MDisIn; done)
                        | (exfalso; simp (disch := omega) only [Int32.lt_iff_toInt_lt, Int32.le_iff_toInt_le, ← Int32.toInt_inj, Int32.reduceToInt, nI_toInt] at c1 c4 c1RephasMonth m5MDhasMonths m4 m7 m2MDisIn; omega)
                    · refine jr_iload rfl rfl ?_
                      refine jr_iload rfl rfl ?_
                      refine jr_icmp_gt rfl (fun m5MDisIn => ?_) (fun m5MDisIn => ?_)
                      · refine jr_ic rfl ?_
                        refine jr_zret rfl rfl rfl (Nat.zero_le _) (Nat.zero_le _) ?_
                        refine jr_if_ne rfl (fun z => absurd (by decide) z) (fun _ => ?_)
                        refine jr_ic rfl ?_
                        refine jr_iret rfl rfl (Nat.zero_le _) (Nat.zero_le _) ?_
                        first
                          | exact ⟨rfl, hRel0⟩
                          | (exfalso; omega)
                          | (exfalso; simp (disch := omega) only [Int32.lt_iff_toInt_lt, Int32.le_iff_toInt_le, ← Int32.toInt_inj, Int32.reduceToInt, nI_toInt] at c1 c4 c1RephasMonth m5MDhasMonths m4 m7 m2MDisIn m5MDisIn; done)
                          | (exfalso; simp (disch := omega) only [Int32.lt_iff_toInt_lt, Int32.le_iff_toInt_le, ← Int32.toInt_inj, Int32.reduceToInt, nI_toInt] at c1 c4 c1RephasMonth m5MDhasMonths m4 m7 m2MDisIn m5MDisIn; omega)
                      · refine jr_ic rfl ?_
                        refine jr_goto rfl ?_
                        refine jr_zret rfl rfl rfl (Nat.zero_le _) (Nat.zero_le _) ?_
                        refine jr_if_ne rfl (fun _ => ?_) (fun z => absurd z (by decide))
                        refine jr_iload rfl rfl ?_
                        refine jr_aload rfl rfl ?_
                        refine jr_getR rfl rfl rfl rfl (Or.inl rfl) ?_
                        refine jr_aload rfl rfl ?_
                        refine jr_getI rfl rfl ?_
                        refine jr_iald (len := 2) rfl rfl hw.1 (by omega) ?_
                        refine jr_imul rfl ?_
                        refine jr_iload rfl rfl ?_
                        refine jr_iadd rfl ?_
                        rw [ek2]
                        refine jr_ist4 rfl rfl ?_
                        refine jr_iload rfl rfl ?_
                        refine jr_aload rfl rfl ?_
                        refine jr_getR rfl rfl rfl rfl (Or.inl rfl) ?_
                        refine jr_ic rfl ?_
                        refine jr_iald (len := 337) rfl rfl (show _ = nI 0 from rfl) (by decide) ?_
                        refine jr_icmp_ge rfl (fun z => absurd z (fun z => nI_ge hkw (by omega) ((show jh_I hm 98 0 0 = nI w from g1) ▸ z))) (fun _ => ?_)
                        refine jr_iload rfl rfl ?_
                        refine jr_ic rfl ?_
                        refine jr_aload rfl rfl ?_
                        refine jr_getR rfl rfl rfl rfl (Or.inl rfl) ?_
                        refine jr_ic rfl ?_
                        refine jr_iload rfl rfl ?_
                        refine jr_iadd rfl ?_
                        refine jr_iald (len := 337) rfl rfl (jn_add (show _ = nI 37 from rfl) rfl) (by omega) ?_
                        refine jr_cs3 (mc' := 0) (ms' := 0) rfl jm_MD_isIn_n jm_MD_isIn_f rfl rfl rfl rfl rfl (Nat.zero_le _) (Nat.zero_le _) ?_
                        show jx_W (jm_MD_isIn, _, _, _, _, _, _) _ 0 0 0 [some _, some _, some _] [] _
                        refine jr_iload rfl rfl ?_
                        refine jr_iload rfl rfl ?_
                        refine jr_icmp_lt rfl (fun m2MDisIn_2 => ?_) (fun m2MDisIn_2 => ?_)
                        · refine jr_ic rfl ?_
                          refine jr_zret rfl rfl rfl (Nat.zero_le _) (Nat.zero_le _) ?_
                          refine jr_if_ne rfl (fun z => absurd (by decide) z) (fun _ => ?_)
                          refine jr_ic rfl ?_
                          refine jr_iret rfl rfl (Nat.zero_le _) (Nat.zero_le _) ?_
                          first
                            | exact ⟨rfl, hRel0⟩
                            | (exfalso; omega)
                            | (exfalso; simp (disch := omega) only [Int32.lt_iff_toInt_lt, Int32.le_iff_toInt_le, ← Int32.toInt_inj, Int32.reduceToInt, nI_toInt] at c1 c4 c1RephasMonth m5MDhasMonths m4 m7 m2MDisIn m5MDisIn m2MDisIn_2; done)
                            | (exfalso; simp (disch := omega) only [Int32.lt_iff_toInt_lt, Int32.le_iff_toInt_le, ← Int32.toInt_inj, Int32.reduceToInt, nI_toInt] at c1 c4 c1RephasMonth m5MDhasMonths m4 m7 m2MDisIn m5MDisIn m2MDisIn_2; omega)
                        · refine jr_iload rfl rfl ?_
                          refine jr_iload rfl rfl ?_
                          refine jr_icmp_gt rfl (fun m5MDisIn_2 => ?_) (fun m5MDisIn_2 => ?_)
                          · refine jr_ic rfl ?_
                            refine jr_zret rfl rfl rfl (Nat.zero_le _) (Nat.zero_le _) ?_
                            refine jr_if_ne rfl (fun z => absurd (by decide) z) (fun _ => ?_)
                            refine jr_ic rfl ?_
                            refine jr_iret rfl rfl (Nat.zero_le _) (Nat.zero_le _) ?_
                            first
                              | exact ⟨rfl, hRel0⟩
                              | (exfalso; omega)
                              | (exfalso; simp (disch := omega) only [Int32.lt_iff_toInt_lt, Int32.le_iff_toInt_le, ← Int32.toInt_inj, Int32.reduceToInt, nI_toInt] at c1 c4 c1RephasMonth m5MDhasMonths m4 m7 m2MDisIn m5MDisIn m2MDisIn_2 m5MDisIn_2; done)
                              | (exfalso; simp (disch := omega) only [Int32.lt_iff_toInt_lt, Int32.le_iff_toInt_le, ← Int32.toInt_inj, Int32.reduceToInt, nI_toInt] at c1 c4 c1RephasMonth m5MDhasMonths m4 m7 m2MDisIn m5MDisIn m2MDisIn_2 m5MDisIn_2; omega)
                          · refine jr_ic rfl ?_
                            refine jr_goto rfl ?_
                            refine jr_zret rfl rfl rfl (Nat.zero_le _) (Nat.zero_le _) ?_
                            refine jr_if_ne rfl (fun _ => ?_) (fun z => absurd z (by decide))
                            refine jr_iload rfl rfl ?_
                            refine jr_ic rfl ?_
                            refine jr_isub rfl ?_
                            refine jr_ist5 rfl rfl ?_
                            refine jr_ic rfl ?_
                            refine jr_ist6 rfl rfl ?_
                            first
                              | (exfalso; omega)
                              | (exfalso; simp (disch := omega) only [Int32.lt_iff_toInt_lt, Int32.le_iff_toInt_le, ← Int32.toInt_inj, Int32.reduceToInt, nI_toInt] at c1 c4 c1RephasMonth m5MDhasMonths m4 m7 m2MDisIn m5MDisIn m2MDisIn_2 m5MDisIn_2; done)
                              | (exfalso; simp (disch := omega) only [Int32.lt_iff_toInt_lt, Int32.le_iff_toInt_le, ← Int32.toInt_inj, Int32.reduceToInt, nI_toInt] at c1 c4 c1RephasMonth m5MDhasMonths m4 m7 m2MDisIn m5MDisIn m2MDisIn_2 m5MDisIn_2; omega)
            · refine jr_iload rfl rfl ?_
              refine jr_aload rfl rfl ?_
              refine jr_getI rfl rfl ?_
              refine jr_icmp_ge rfl (fun c5RephasMonth => ?_) (fun c5RephasMonth => ?_)
              · refine jr_ic rfl ?_
                refine jr_zret rfl rfl rfl (Nat.zero_le _) (Nat.zero_le _) ?_
                refine jr_if_ne rfl (fun z => absurd (by decide) z) (fun _ => ?_)
                refine jr_ic rfl ?_
                refine jr_iret rfl rfl (Nat.zero_le _) (Nat.zero_le _) ?_
                show jx_W (jm_MD_number, d + 40, 0, 0, false, 1, _) _ 0 0 0 [some _, some _, some _, some _, none, none, none] [] _
                refine jr_aload rfl rfl ?_
                refine jr_cv0 (mc' := 0) (ms' := 0) rfl jm_MD_hasMonths_n jm_MD_hasMonths_f rfl rfl rfl rfl rfl rfl rfl (Nat.zero_le _) (Nat.zero_le _) ?_
                show jx_W (jm_MD_hasMonths, _, _, _, _, _, _) _ 0 0 0 [some _] [] _
                refine jr_aload rfl rfl ?_
                refine jr_getR rfl rfl rfl rfl (Or.inl rfl) ?_
                refine jr_aload rfl rfl ?_
                refine jr_getI rfl rfl ?_
                refine jr_iald (len := 2) rfl rfl hw.1 (by omega) ?_
                refine jr_if_le rfl (fun m5MDhasMonths => ?_) (fun m5MDhasMonths => ?_)
                · refine jr_ic rfl ?_
                  refine jr_zret rfl rfl rfl (Nat.zero_le _) (Nat.zero_le _) ?_
                  refine jr_if_eq rfl (fun _ => ?_) (fun z => absurd (by decide) z)
                  refine jr_ic rfl ?_
                  refine jr_iret rfl rfl (Nat.zero_le _) (Nat.zero_le _) ?_
                  first
                    | exact ⟨rfl, hRel0⟩
                    | (exfalso; omega)
                    | (exfalso; simp (disch := omega) only [Int32.lt_iff_toInt_lt, Int32.le_iff_toInt_le, ← Int32.toInt_inj, Int32.reduceToInt, nI_toInt] at c1 c4 c1RephasMonth c5RephasMonth m5MDhasMonths; done)
                    | (exfalso; simp (disch := omega) only [Int32.lt_iff_toInt_lt, Int32.le_iff_toInt_le, ← Int32.toInt_inj, Int32.reduceToInt, nI_toInt] at c1 c4 c1RephasMonth c5RephasMonth m5MDhasMonths; omega)
                · refine jr_ic rfl ?_
                  refine jr_goto rfl ?_
                  refine jr_zret rfl rfl rfl (Nat.zero_le _) (Nat.zero_le _) ?_
                  refine jr_if_eq rfl (fun z => absurd z (by decide)) (fun _ => ?_)
                  refine jr_iload rfl rfl ?_
                  refine jr_if_lt rfl (fun m4 => ?_) (fun m4 => ?_)
                  · refine jr_ic rfl ?_
                    refine jr_iret rfl rfl (Nat.zero_le _) (Nat.zero_le _) ?_
                    first
                      | exact ⟨rfl, hRel0⟩
                      | (exfalso; omega)
                      | (exfalso; simp (disch := omega) only [Int32.lt_iff_toInt_lt, Int32.le_iff_toInt_le, ← Int32.toInt_inj, Int32.reduceToInt, nI_toInt] at c1 c4 c1RephasMonth c5RephasMonth m5MDhasMonths m4; done)
                      | (exfalso; simp (disch := omega) only [Int32.lt_iff_toInt_lt, Int32.le_iff_toInt_le, ← Int32.toInt_inj, Int32.reduceToInt, nI_toInt] at c1 c4 c1RephasMonth c5RephasMonth m5MDhasMonths m4; omega)
                  · refine jr_iload rfl rfl ?_
                    refine jr_ic rfl ?_
                    refine jr_icmp_gt rfl (fun m7 => ?_) (fun m7 => ?_)
                    · refine jr_ic rfl ?_
                      refine jr_iret rfl rfl (Nat.zero_le _) (Nat.zero_le _) ?_
                      first
                        | exact ⟨rfl, hRel0⟩
                        | (exfalso; omega)
                        | (exfalso; simp (disch := omega) only [Int32.lt_iff_toInt_lt, Int32.le_iff_toInt_le, ← Int32.toInt_inj, Int32.reduceToInt, nI_toInt] at c1 c4 c1RephasMonth c5RephasMonth m5MDhasMonths m4 m7; done)
                        | (exfalso; simp (disch := omega) only [Int32.lt_iff_toInt_lt, Int32.le_iff_toInt_le, ← Int32.toInt_inj, Int32.reduceToInt, nI_toInt] at c1 c4 c1RephasMonth c5RephasMonth m5MDhasMonths m4 m7; omega)
                    · refine jr_iload rfl rfl ?_
                      refine jr_ic rfl ?_
                      refine jr_aload rfl rfl ?_
                      refine jr_getR rfl rfl rfl rfl (Or.inl rfl) ?_
                      refine jr_aload rfl rfl ?_
                      refine jr_getI rfl rfl ?_
                      refine jr_iald (len := 2) rfl rfl hw.1 (by omega) ?_
                      refine jr_ic rfl ?_
                      refine jr_isub rfl ?_
                      refine jr_cs3 (mc' := 0) (ms' := 0) rfl jm_MD_isIn_n jm_MD_isIn_f rfl rfl rfl rfl rfl (Nat.zero_le _) (Nat.zero_le _) ?_
                      show jx_W (jm_MD_isIn, _, _, _, _, _, _) _ 0 0 0 [some _, some _, some _] [] _
                      refine jr_iload rfl rfl ?_
                      refine jr_iload rfl rfl ?_
                      refine jr_icmp_lt rfl (fun m2MDisIn => ?_) (fun m2MDisIn => ?_)
                      · refine jr_ic rfl ?_
                        refine jr_zret rfl rfl rfl (Nat.zero_le _) (Nat.zero_le _) ?_
                        refine jr_if_ne rfl (fun z => absurd (by decide) z) (fun _ => ?_)
                        refine jr_ic rfl ?_
                        refine jr_iret rfl rfl (Nat.zero_le _) (Nat.zero_le _) ?_
                        first
                          | exact ⟨rfl, hRel0⟩
                          | (exfalso; omega)
                          | (exfalso; simp (disch := omega) only [Int32.lt_iff_toInt_lt, Int32.le_iff_toInt_le, ← Int32.toInt_inj, Int32.reduceToInt, nI_toInt] at c1 c4 c1RephasMonth c5RephasMonth m5MDhasMonths m4 m7 m2MDisIn; done)
                          | (exfalso; simp (disch := omega) only [Int32.lt_iff_toInt_lt, Int32.le_iff_toInt_le, ← Int32.toInt_inj, Int32.reduceToInt, nI_toInt] at c1 c4 c1RephasMonth c5RephasMonth m5MDhasMonths m4 m7 m2MDisIn; omega)
                      · refine jr_iload rfl rfl ?_
                        refine jr_iload rfl rfl ?_
                        refine jr_icmp_gt rfl (fun m5MDisIn => ?_) (fun m5MDisIn => ?_)
                        · refine jr_ic rfl ?_
                          refine jr_zret rfl rfl rfl (Nat.zero_le _) (Nat.zero_le _) ?_
                          refine jr_if_ne rfl (fun z => absurd (by decide) z) (fun _ => ?_)
                          refine jr_ic rfl ?_
                          refine jr_iret rfl rfl (Nat.zero_le _) (Nat.zero_le _) ?_
                          first
                            | exact ⟨rfl, hRel0⟩
                            | (exfalso; omega)
                            | (exfalso; simp (disch := omega) only [Int32.lt_iff_toInt_lt, Int32.le_iff_toInt_le, ← Int32.toInt_inj, Int32.reduceToInt, nI_toInt] at c1 c4 c1RephasMonth c5RephasMonth m5MDhasMonths m4 m7 m2MDisIn m5MDisIn; done)
                            | (exfalso; simp (disch := omega) only [Int32.lt_iff_toInt_lt, Int32.le_iff_toInt_le, ← Int32.toInt_inj, Int32.reduceToInt, nI_toInt] at c1 c4 c1RephasMonth c5RephasMonth m5MDhasMonths m4 m7 m2MDisIn m5MDisIn; omega)
                        · refine jr_ic rfl ?_
                          refine jr_goto rfl ?_
                          refine jr_zret rfl rfl rfl (Nat.zero_le _) (Nat.zero_le _) ?_
                          refine jr_if_ne rfl (fun _ => ?_) (fun z => absurd z (by decide))
                          refine jr_iload rfl rfl ?_
                          refine jr_aload rfl rfl ?_
                          refine jr_getR rfl rfl rfl rfl (Or.inl rfl) ?_
                          refine jr_aload rfl rfl ?_
                          refine jr_getI rfl rfl ?_
                          refine jr_iald (len := 2) rfl rfl hw.1 (by omega) ?_
                          refine jr_imul rfl ?_
                          refine jr_iload rfl rfl ?_
                          refine jr_iadd rfl ?_
                          rw [ek2]
                          refine jr_ist4 rfl rfl ?_
                          refine jr_iload rfl rfl ?_
                          refine jr_aload rfl rfl ?_
                          refine jr_getR rfl rfl rfl rfl (Or.inl rfl) ?_
                          refine jr_ic rfl ?_
                          refine jr_iald (len := 337) rfl rfl (show _ = nI 0 from rfl) (by decide) ?_
                          refine jr_icmp_ge rfl (fun z => absurd z (fun z => nI_ge hkw (by omega) ((show jh_I hm 98 0 0 = nI w from g1) ▸ z))) (fun _ => ?_)
                          refine jr_iload rfl rfl ?_
                          refine jr_ic rfl ?_
                          refine jr_aload rfl rfl ?_
                          refine jr_getR rfl rfl rfl rfl (Or.inl rfl) ?_
                          refine jr_ic rfl ?_
                          refine jr_iload rfl rfl ?_
                          refine jr_iadd rfl ?_
                          refine jr_iald (len := 337) rfl rfl (jn_add (show _ = nI 37 from rfl) rfl) (by omega) ?_
                          refine jr_cs3 (mc' := 0) (ms' := 0) rfl jm_MD_isIn_n jm_MD_isIn_f rfl rfl rfl rfl rfl (Nat.zero_le _) (Nat.zero_le _) ?_
                          show jx_W (jm_MD_isIn, _, _, _, _, _, _) _ 0 0 0 [some _, some _, some _] [] _
                          refine jr_iload rfl rfl ?_
                          refine jr_iload rfl rfl ?_
                          refine jr_icmp_lt rfl (fun m2MDisIn_2 => ?_) (fun m2MDisIn_2 => ?_)
                          · refine jr_ic rfl ?_
                            refine jr_zret rfl rfl rfl (Nat.zero_le _) (Nat.zero_le _) ?_
                            refine jr_if_ne rfl (fun z => absurd (by decide) z) (fun _ => ?_)
                            refine jr_ic rfl ?_
                            refine jr_iret rfl rfl (Nat.zero_le _) (Nat.zero_le _) ?_
                            first
                              | exact ⟨rfl, hRel0⟩
                              | (exfalso; omega)
                              | (exfalso; simp (disch := omega) only [Int32.lt_iff_toInt_lt, Int32.le_iff_toInt_le, ← Int32.toInt_inj, Int32.reduceToInt, nI_toInt] at c1 c4 c1RephasMonth c5RephasMonth m5MDhasMonths m4 m7 m2MDisIn m5MDisIn m2MDisIn_2; done)
                              | (exfalso; simp (disch := omega) only [Int32.lt_iff_toInt_lt, Int32.le_iff_toInt_le, ← Int32.toInt_inj, Int32.reduceToInt, nI_toInt] at c1 c4 c1RephasMonth c5RephasMonth m5MDhasMonths m4 m7 m2MDisIn m5MDisIn m2MDisIn_2; omega)
                          · refine jr_iload rfl rfl ?_
                            refine jr_iload rfl rfl ?_
                            refine jr_icmp_gt rfl (fun m5MDisIn_2 => ?_) (fun m5MDisIn_2 => ?_)
                            · refine jr_ic rfl ?_
                              refine jr_zret rfl rfl rfl (Nat.zero_le _) (Nat.zero_le _) ?_
                              refine jr_if_ne rfl (fun z => absurd (by decide) z) (fun _ => ?_)
                              refine jr_ic rfl ?_
                              refine jr_iret rfl rfl (Nat.zero_le _) (Nat.zero_le _) ?_
                              first
                                | exact ⟨rfl, hRel0⟩
                                | (exfalso; omega)
                                | (exfalso; simp (disch := omega) only [Int32.lt_iff_toInt_lt, Int32.le_iff_toInt_le, ← Int32.toInt_inj, Int32.reduceToInt, nI_toInt] at c1 c4 c1RephasMonth c5RephasMonth m5MDhasMonths m4 m7 m2MDisIn m5MDisIn m2MDisIn_2 m5MDisIn_2; done)
                                | (exfalso; simp (disch := omega) only [Int32.lt_iff_toInt_lt, Int32.le_iff_toInt_le, ← Int32.toInt_inj, Int32.reduceToInt, nI_toInt] at c1 c4 c1RephasMonth c5RephasMonth m5MDhasMonths m4 m7 m2MDisIn m5MDisIn m2MDisIn_2 m5MDisIn_2; omega)
                            · refine jr_ic rfl ?_
                              refine jr_goto rfl ?_
                              refine jr_zret rfl rfl rfl (Nat.zero_le _) (Nat.zero_le _) ?_
                              refine jr_if_ne rfl (fun _ => ?_) (fun z => absurd z (by decide))
                              refine jr_iload rfl rfl ?_
                              refine jr_ic rfl ?_
                              refine jr_isub rfl ?_
                              refine jr_ist5 rfl rfl ?_
                              refine jr_ic rfl ?_
                              refine jr_ist6 rfl rfl ?_
                              first
                                | (exfalso; omega)
                                | (exfalso; simp (disch := omega) only [Int32.lt_iff_toInt_lt, Int32.le_iff_toInt_le, ← Int32.toInt_inj, Int32.reduceToInt, nI_toInt] at c1 c4 c1RephasMonth c5RephasMonth m5MDhasMonths m4 m7 m2MDisIn m5MDisIn m2MDisIn_2 m5MDisIn_2; done)
                                | (exfalso; simp (disch := omega) only [Int32.lt_iff_toInt_lt, Int32.le_iff_toInt_le, ← Int32.toInt_inj, Int32.reduceToInt, nI_toInt] at c1 c4 c1RephasMonth c5RephasMonth m5MDhasMonths m4 m7 m2MDisIn m5MDisIn m2MDisIn_2 m5MDisIn_2; omega)
              · refine jr_ic rfl ?_
                refine jr_goto rfl ?_
                refine jr_zret rfl rfl rfl (Nat.zero_le _) (Nat.zero_le _) ?_
                refine jr_if_ne rfl (fun _ => ?_) (fun z => absurd z (by decide))
                refine jr_iload rfl rfl ?_
                refine jr_aload rfl rfl ?_
                refine jr_getM rfl rfl rfl rfl hto ?_
                refine jr_getI rfl rfl ?_
                refine jr_imul rfl ?_
                refine jr_iload rfl rfl ?_
                refine jr_iadd rfl ?_
                rw [ek]
                refine jr_ist4 rfl rfl ?_
                refine jr_aload rfl rfl ?_
                refine jr_getR rfl rfl rfl rfl (Or.inl rfl) ?_
                refine jr_iload rfl rfl ?_
                refine jr_cv1 (mc' := 0) (ms' := 0) rfl jm_Cal_hadMonth_n jm_Cal_hadMonth_f rfl rfl rfl rfl rfl rfl rfl (Nat.zero_le _) (Nat.zero_le _) ?_
                show jx_W (jm_Cal_hadMonth, _, _, _, _, _, _) _ 0 0 0 [some _, some _] [] _
                refine jr_iload rfl rfl ?_
                refine jr_if_lt rfl (fun z => absurd z (nI_pos (by omega))) (fun _ => ?_)
                refine jr_iload rfl rfl ?_
                refine jr_aload rfl rfl ?_
                refine jr_getI rfl rfl ?_
                refine jr_icmp_ge rfl (fun z => absurd z (fun z => nI_ge hkw (by omega) ((show jh_I hc 1 0 2 = nI w from hA.2.1.trans g1) ▸ z))) (fun _ => ?_)
                refine jr_iload rfl rfl ?_
                refine jr_aload rfl rfl ?_
                refine jr_getR rfl rfl rfl rfl (Or.inl rfl) ?_
                refine jr_alen (so := 1) (len := 512) rfl rfl rfl rfl ?_
                refine jr_icmp_ge rfl (fun z => absurd z (nI_ge (b := 512) (by omega) (by decide))) (fun _ => ?_)
                refine jr_ic rfl ?_
                refine jr_goto rfl ?_
                refine jr_zret rfl rfl rfl (Nat.zero_le _) (Nat.zero_le _) ?_
                refine jr_if_eq rfl (fun z => absurd z (by decide)) (fun _ => ?_)
                refine jr_iload rfl rfl ?_
                refine jr_ic rfl ?_
                refine jr_icmp_lt rfl (fun c27 => ?_) (fun c27 => ?_)
                · refine jr_ic rfl ?_
                  refine jr_iret rfl rfl (Nat.zero_le _) (Nat.zero_le _) ?_
                  show jx_W (jm_MD_number, d + 40, 0, 0, false, 1, _) _ 0 0 0 [some _, some _, some _, some _, none, none, none] [] _
                  refine jr_aload rfl rfl ?_
                  refine jr_cv0 (mc' := 0) (ms' := 0) rfl jm_MD_hasMonths_n jm_MD_hasMonths_f rfl rfl rfl rfl rfl rfl rfl (Nat.zero_le _) (Nat.zero_le _) ?_
                  show jx_W (jm_MD_hasMonths, _, _, _, _, _, _) _ 0 0 0 [some _] [] _
                  refine jr_aload rfl rfl ?_
                  refine jr_getR rfl rfl rfl rfl (Or.inl rfl) ?_
                  refine jr_aload rfl rfl ?_
                  refine jr_getI rfl rfl ?_
                  refine jr_iald (len := 2) rfl rfl hw.1 (by omega) ?_
                  refine jr_if_le rfl (fun m5MDhasMonths => ?_) (fun m5MDhasMonths => ?_)
                  · refine jr_ic rfl ?_
                    refine jr_zret rfl rfl rfl (Nat.zero_le _) (Nat.zero_le _) ?_
                    refine jr_if_eq rfl (fun _ => ?_) (fun z => absurd (by decide) z)
                    refine jr_ic rfl ?_
                    refine jr_iret rfl rfl (Nat.zero_le _) (Nat.zero_le _) ?_
                    first
                      | exact ⟨rfl, hRel0⟩
                      | (exfalso; omega)
                      | (exfalso; simp (disch := omega) only [Int32.lt_iff_toInt_lt, Int32.le_iff_toInt_le, ← Int32.toInt_inj, Int32.reduceToInt, nI_toInt] at c1 c4 c1RephasMonth c5RephasMonth c27 m5MDhasMonths; done)
                      | (exfalso; simp (disch := omega) only [Int32.lt_iff_toInt_lt, Int32.le_iff_toInt_le, ← Int32.toInt_inj, Int32.reduceToInt, nI_toInt] at c1 c4 c1RephasMonth c5RephasMonth c27 m5MDhasMonths; omega)
                  · refine jr_ic rfl ?_
                    refine jr_goto rfl ?_
                    refine jr_zret rfl rfl rfl (Nat.zero_le _) (Nat.zero_le _) ?_
                    refine jr_if_eq rfl (fun z => absurd z (by decide)) (fun _ => ?_)
                    refine jr_iload rfl rfl ?_
                    refine jr_if_lt rfl (fun m4 => ?_) (fun m4 => ?_)
                    · refine jr_ic rfl ?_
                      refine jr_iret rfl rfl (Nat.zero_le _) (Nat.zero_le _) ?_
                      first
                        | exact ⟨rfl, hRel0⟩
                        | (exfalso; omega)
                        | (exfalso; simp (disch := omega) only [Int32.lt_iff_toInt_lt, Int32.le_iff_toInt_le, ← Int32.toInt_inj, Int32.reduceToInt, nI_toInt] at c1 c4 c1RephasMonth c5RephasMonth c27 m5MDhasMonths m4; done)
                        | (exfalso; simp (disch := omega) only [Int32.lt_iff_toInt_lt, Int32.le_iff_toInt_le, ← Int32.toInt_inj, Int32.reduceToInt, nI_toInt] at c1 c4 c1RephasMonth c5RephasMonth c27 m5MDhasMonths m4; omega)
                    · refine jr_iload rfl rfl ?_
                      refine jr_ic rfl ?_
                      refine jr_icmp_gt rfl (fun m7 => ?_) (fun m7 => ?_)
                      · refine jr_ic rfl ?_
                        refine jr_iret rfl rfl (Nat.zero_le _) (Nat.zero_le _) ?_
                        first
                          | exact ⟨rfl, hRel0⟩
                          | (exfalso; omega)
                          | (exfalso; simp (disch := omega) only [Int32.lt_iff_toInt_lt, Int32.le_iff_toInt_le, ← Int32.toInt_inj, Int32.reduceToInt, nI_toInt] at c1 c4 c1RephasMonth c5RephasMonth c27 m5MDhasMonths m4 m7; done)
                          | (exfalso; simp (disch := omega) only [Int32.lt_iff_toInt_lt, Int32.le_iff_toInt_le, ← Int32.toInt_inj, Int32.reduceToInt, nI_toInt] at c1 c4 c1RephasMonth c5RephasMonth c27 m5MDhasMonths m4 m7; omega)
                      · refine jr_iload rfl rfl ?_
                        refine jr_ic rfl ?_
                        refine jr_aload rfl rfl ?_
                        refine jr_getR rfl rfl rfl rfl (Or.inl rfl) ?_
                        refine jr_aload rfl rfl ?_
                        refine jr_getI rfl rfl ?_
                        refine jr_iald (len := 2) rfl rfl hw.1 (by omega) ?_
                        refine jr_ic rfl ?_
                        refine jr_isub rfl ?_
                        refine jr_cs3 (mc' := 0) (ms' := 0) rfl jm_MD_isIn_n jm_MD_isIn_f rfl rfl rfl rfl rfl (Nat.zero_le _) (Nat.zero_le _) ?_
                        show jx_W (jm_MD_isIn, _, _, _, _, _, _) _ 0 0 0 [some _, some _, some _] [] _
                        refine jr_iload rfl rfl ?_
                        refine jr_iload rfl rfl ?_
                        refine jr_icmp_lt rfl (fun m2MDisIn => ?_) (fun m2MDisIn => ?_)
                        · refine jr_ic rfl ?_
                          refine jr_zret rfl rfl rfl (Nat.zero_le _) (Nat.zero_le _) ?_
                          refine jr_if_ne rfl (fun z => absurd (by decide) z) (fun _ => ?_)
                          refine jr_ic rfl ?_
                          refine jr_iret rfl rfl (Nat.zero_le _) (Nat.zero_le _) ?_
                          first
                            | exact ⟨rfl, hRel0⟩
                            | (exfalso; omega)
                            | (exfalso; simp (disch := omega) only [Int32.lt_iff_toInt_lt, Int32.le_iff_toInt_le, ← Int32.toInt_inj, Int32.reduceToInt, nI_toInt] at c1 c4 c1RephasMonth c5RephasMonth c27 m5MDhasMonths m4 m7 m2MDisIn; done)
                            | (exfalso; simp (disch := omega) only [Int32.lt_iff_toInt_lt, Int32.le_iff_toInt_le, ← Int32.toInt_inj, Int32.reduceToInt, nI_toInt] at c1 c4 c1RephasMonth c5RephasMonth c27 m5MDhasMonths m4 m7 m2MDisIn; omega)
                        · refine jr_iload rfl rfl ?_
                          refine jr_iload rfl rfl ?_
                          refine jr_icmp_gt rfl (fun m5MDisIn => ?_) (fun m5MDisIn => ?_)
                          · refine jr_ic rfl ?_
                            refine jr_zret rfl rfl rfl (Nat.zero_le _) (Nat.zero_le _) ?_
                            refine jr_if_ne rfl (fun z => absurd (by decide) z) (fun _ => ?_)
                            refine jr_ic rfl ?_
                            refine jr_iret rfl rfl (Nat.zero_le _) (Nat.zero_le _) ?_
                            first
                              | exact ⟨rfl, hRel0⟩
                              | (exfalso; omega)
                              | (exfalso; simp (disch := omega) only [Int32.lt_iff_toInt_lt, Int32.le_iff_toInt_le, ← Int32.toInt_inj, Int32.reduceToInt, nI_toInt] at c1 c4 c1RephasMonth c5RephasMonth c27 m5MDhasMonths m4 m7 m2MDisIn m5MDisIn; done)
                              | (exfalso; simp (disch := omega) only [Int32.lt_iff_toInt_lt, Int32.le_iff_toInt_le, ← Int32.toInt_inj, Int32.reduceToInt, nI_toInt] at c1 c4 c1RephasMonth c5RephasMonth c27 m5MDhasMonths m4 m7 m2MDisIn m5MDisIn; omega)
                          · refine jr_ic rfl ?_
                            refine jr_goto rfl ?_
                            refine jr_zret rfl rfl rfl (Nat.zero_le _) (Nat.zero_le _) ?_
                            refine jr_if_ne rfl (fun _ => ?_) (fun z => absurd z (by decide))
                            refine jr_iload rfl rfl ?_
                            refine jr_aload rfl rfl ?_
                            refine jr_getR rfl rfl rfl rfl (Or.inl rfl) ?_
                            refine jr_aload rfl rfl ?_
                            refine jr_getI rfl rfl ?_
                            refine jr_iald (len := 2) rfl rfl hw.1 (by omega) ?_
                            refine jr_imul rfl ?_
                            refine jr_iload rfl rfl ?_
                            refine jr_iadd rfl ?_
                            rw [ek2]
                            refine jr_ist4 rfl rfl ?_
                            refine jr_iload rfl rfl ?_
                            refine jr_aload rfl rfl ?_
                            refine jr_getR rfl rfl rfl rfl (Or.inl rfl) ?_
                            refine jr_ic rfl ?_
                            refine jr_iald (len := 337) rfl rfl (show _ = nI 0 from rfl) (by decide) ?_
                            refine jr_icmp_ge rfl (fun z => absurd z (fun z => nI_ge hkw (by omega) ((show jh_I hm 98 0 0 = nI w from g1) ▸ z))) (fun _ => ?_)
                            refine jr_iload rfl rfl ?_
                            refine jr_ic rfl ?_
                            refine jr_aload rfl rfl ?_
                            refine jr_getR rfl rfl rfl rfl (Or.inl rfl) ?_
                            refine jr_ic rfl ?_
                            refine jr_iload rfl rfl ?_
                            refine jr_iadd rfl ?_
                            refine jr_iald (len := 337) rfl rfl (jn_add (show _ = nI 37 from rfl) rfl) (by omega) ?_
                            refine jr_cs3 (mc' := 0) (ms' := 0) rfl jm_MD_isIn_n jm_MD_isIn_f rfl rfl rfl rfl rfl (Nat.zero_le _) (Nat.zero_le _) ?_
                            show jx_W (jm_MD_isIn, _, _, _, _, _, _) _ 0 0 0 [some _, some _, some _] [] _
                            refine jr_iload rfl rfl ?_
                            refine jr_iload rfl rfl ?_
                            refine jr_icmp_lt rfl (fun m2MDisIn_2 => ?_) (fun m2MDisIn_2 => ?_)
                            · refine jr_ic rfl ?_
                              refine jr_zret rfl rfl rfl (Nat.zero_le _) (Nat.zero_le _) ?_
                              refine jr_if_ne rfl (fun z => absurd (by decide) z) (fun _ => ?_)
                              refine jr_ic rfl ?_
                              refine jr_iret rfl rfl (Nat.zero_le _) (Nat.zero_le _) ?_
                              first
                                | exact ⟨rfl, hRel0⟩
                                | (exfalso; omega)
                                | (exfalso; simp (disch := omega) only [Int32.lt_iff_toInt_lt, Int32.le_iff_toInt_le, ← Int32.toInt_inj, Int32.reduceToInt, nI_toInt] at c1 c4 c1RephasMonth c5RephasMonth c27 m5MDhasMonths m4 m7 m2MDisIn m5MDisIn m2MDisIn_2; done)
                                | (exfalso; simp (disch := omega) only [Int32.lt_iff_toInt_lt, Int32.le_iff_toInt_le, ← Int32.toInt_inj, Int32.reduceToInt, nI_toInt] at c1 c4 c1RephasMonth c5RephasMonth c27 m5MDhasMonths m4 m7 m2MDisIn m5MDisIn m2MDisIn_2; omega)
                            · refine jr_iload rfl rfl ?_
                              refine jr_iload rfl rfl ?_
                              refine jr_icmp_gt rfl (fun m5MDisIn_2 => ?_) (fun m5MDisIn_2 => ?_)
                              · refine jr_ic rfl ?_
                                refine jr_zret rfl rfl rfl (Nat.zero_le _) (Nat.zero_le _) ?_
                                refine jr_if_ne rfl (fun z => absurd (by decide) z) (fun _ => ?_)
                                refine jr_ic rfl ?_
                                refine jr_iret rfl rfl (Nat.zero_le _) (Nat.zero_le _) ?_
                                first
                                  | exact ⟨rfl, hRel0⟩
                                  | (exfalso; omega)
                                  | (exfalso; simp (disch := omega) only [Int32.lt_iff_toInt_lt, Int32.le_iff_toInt_le, ← Int32.toInt_inj, Int32.reduceToInt, nI_toInt] at c1 c4 c1RephasMonth c5RephasMonth c27 m5MDhasMonths m4 m7 m2MDisIn m5MDisIn m2MDisIn_2 m5MDisIn_2; done)
                                  | (exfalso; simp (disch := omega) only [Int32.lt_iff_toInt_lt, Int32.le_iff_toInt_le, ← Int32.toInt_inj, Int32.reduceToInt, nI_toInt] at c1 c4 c1RephasMonth c5RephasMonth c27 m5MDhasMonths m4 m7 m2MDisIn m5MDisIn m2MDisIn_2 m5MDisIn_2; omega)
                              · refine jr_ic rfl ?_
                                refine jr_goto rfl ?_
                                refine jr_zret rfl rfl rfl (Nat.zero_le _) (Nat.zero_le _) ?_
                                refine jr_if_ne rfl (fun _ => ?_) (fun z => absurd z (by decide))
                                refine jr_iload rfl rfl ?_
                                refine jr_ic rfl ?_
                                refine jr_isub rfl ?_
                                refine jr_ist5 rfl rfl ?_
                                refine jr_ic rfl ?_
                                refine jr_ist6 rfl rfl ?_
                                first
                                  | (exfalso; omega)
                                  | (exfalso; simp (disch := omega) only [Int32.lt_iff_toInt_lt, Int32.le_iff_toInt_le, ← Int32.toInt_inj, Int32.reduceToInt, nI_toInt] at c1 c4 c1RephasMonth c5RephasMonth c27 m5MDhasMonths m4 m7 m2MDisIn m5MDisIn m2MDisIn_2 m5MDisIn_2; done)
                                  | (exfalso; simp (disch := omega) only [Int32.lt_iff_toInt_lt, Int32.le_iff_toInt_le, ← Int32.toInt_inj, Int32.reduceToInt, nI_toInt] at c1 c4 c1RephasMonth c5RephasMonth c27 m5MDhasMonths m4 m7 m2MDisIn m5MDisIn m2MDisIn_2 m5MDisIn_2; omega)
                · refine jr_iload rfl rfl ?_
                  refine jr_aload rfl rfl ?_
                  refine jr_getR rfl rfl rfl rfl (Or.inl rfl) ?_
                  refine jr_getR rfl rfl rfl rfl (Or.inl rfl) ?_
                  refine jr_iload rfl rfl ?_
                  refine jr_iald (len := 512) rfl rfl rfl (by omega) ?_
                  rw [e31]
                  refine jr_icmp_le rfl (fun c34 => ?_) (fun c34 => ?_)
                  · refine jr_aload rfl rfl ?_
                    refine jr_getR rfl rfl rfl rfl (Or.inl rfl) ?_
                    refine jr_iload rfl rfl ?_
                    refine jr_cv1 (mc' := 0) (ms' := 0) rfl jm_Cal_firstDay_n jm_Cal_firstDay_f rfl rfl rfl rfl rfl rfl rfl (Nat.zero_le _) (Nat.zero_le _) ?_
                    refine ev_firstDay (f := fun j => jA hm (37 + j)) (by omega) (fun j hj => hL2 j (by omega)) ?_
                    refine jr_iload rfl rfl ?_
                    refine jr_iadd rfl ?_
                    refine jr_ic rfl ?_
                    refine jr_isub rfl ?_
                    refine jr_iret rfl rfl (Nat.zero_le _) (Nat.zero_le _) ?_
                    show jx_W (jm_MD_number, d + 40, 0, 0, false, 1, _) _ 0 0 0 [some _, some _, some _, some _, none, none, none] [] _
                    refine jr_aload rfl rfl ?_
                    refine jr_cv0 (mc' := 0) (ms' := 0) rfl jm_MD_hasMonths_n jm_MD_hasMonths_f rfl rfl rfl rfl rfl rfl rfl (Nat.zero_le _) (Nat.zero_le _) ?_
                    show jx_W (jm_MD_hasMonths, _, _, _, _, _, _) _ 0 0 0 [some _] [] _
                    refine jr_aload rfl rfl ?_
                    refine jr_getR rfl rfl rfl rfl (Or.inl rfl) ?_
                    refine jr_aload rfl rfl ?_
                    refine jr_getI rfl rfl ?_
                    refine jr_iald (len := 2) rfl rfl hw.1 (by omega) ?_
                    refine jr_if_le rfl (fun m5MDhasMonths => ?_) (fun m5MDhasMonths => ?_)
                    · refine jr_ic rfl ?_
                      refine jr_zret rfl rfl rfl (Nat.zero_le _) (Nat.zero_le _) ?_
                      refine jr_if_eq rfl (fun _ => ?_) (fun z => absurd (by decide) z)
                      refine jr_ic rfl ?_
                      refine jr_iret rfl rfl (Nat.zero_le _) (Nat.zero_le _) ?_
                      first
                        | exact ⟨rfl, hRel0⟩
                        | (exfalso; omega)
                        | (exfalso; simp (disch := omega) only [Int32.lt_iff_toInt_lt, Int32.le_iff_toInt_le, ← Int32.toInt_inj, Int32.reduceToInt, nI_toInt] at c1 c4 c1RephasMonth c5RephasMonth c27 c34 m5MDhasMonths; done)
                        | (exfalso; simp (disch := omega) only [Int32.lt_iff_toInt_lt, Int32.le_iff_toInt_le, ← Int32.toInt_inj, Int32.reduceToInt, nI_toInt] at c1 c4 c1RephasMonth c5RephasMonth c27 c34 m5MDhasMonths; omega)
                    · refine jr_ic rfl ?_
                      refine jr_goto rfl ?_
                      refine jr_zret rfl rfl rfl (Nat.zero_le _) (Nat.zero_le _) ?_
                      refine jr_if_eq rfl (fun z => absurd z (by decide)) (fun _ => ?_)
                      refine jr_iload rfl rfl ?_
                      refine jr_if_lt rfl (fun m4 => ?_) (fun m4 => ?_)
                      · refine jr_ic rfl ?_
                        refine jr_iret rfl rfl (Nat.zero_le _) (Nat.zero_le _) ?_
                        first
                          | exact ⟨rfl, hRel0⟩
                          | (exfalso; omega)
                          | (exfalso; simp (disch := omega) only [Int32.lt_iff_toInt_lt, Int32.le_iff_toInt_le, ← Int32.toInt_inj, Int32.reduceToInt, nI_toInt] at c1 c4 c1RephasMonth c5RephasMonth c27 c34 m5MDhasMonths m4; done)
                          | (exfalso; simp (disch := omega) only [Int32.lt_iff_toInt_lt, Int32.le_iff_toInt_le, ← Int32.toInt_inj, Int32.reduceToInt, nI_toInt] at c1 c4 c1RephasMonth c5RephasMonth c27 c34 m5MDhasMonths m4; omega)
                      · refine jr_iload rfl rfl ?_
                        refine jr_ic rfl ?_
                        refine jr_icmp_gt rfl (fun m7 => ?_) (fun m7 => ?_)
                        · refine jr_ic rfl ?_
                          refine jr_iret rfl rfl (Nat.zero_le _) (Nat.zero_le _) ?_
                          first
                            | exact ⟨rfl, hRel0⟩
                            | (exfalso; omega)
                            | (exfalso; simp (disch := omega) only [Int32.lt_iff_toInt_lt, Int32.le_iff_toInt_le, ← Int32.toInt_inj, Int32.reduceToInt, nI_toInt] at c1 c4 c1RephasMonth c5RephasMonth c27 c34 m5MDhasMonths m4 m7; done)
                            | (exfalso; simp (disch := omega) only [Int32.lt_iff_toInt_lt, Int32.le_iff_toInt_le, ← Int32.toInt_inj, Int32.reduceToInt, nI_toInt] at c1 c4 c1RephasMonth c5RephasMonth c27 c34 m5MDhasMonths m4 m7; omega)
                        · refine jr_iload rfl rfl ?_
                          refine jr_ic rfl ?_
                          refine jr_aload rfl rfl ?_
                          refine jr_getR rfl rfl rfl rfl (Or.inl rfl) ?_
                          refine jr_aload rfl rfl ?_
                          refine jr_getI rfl rfl ?_
                          refine jr_iald (len := 2) rfl rfl hw.1 (by omega) ?_
                          refine jr_ic rfl ?_
                          refine jr_isub rfl ?_
                          refine jr_cs3 (mc' := 0) (ms' := 0) rfl jm_MD_isIn_n jm_MD_isIn_f rfl rfl rfl rfl rfl (Nat.zero_le _) (Nat.zero_le _) ?_
                          show jx_W (jm_MD_isIn, _, _, _, _, _, _) _ 0 0 0 [some _, some _, some _] [] _
                          refine jr_iload rfl rfl ?_
                          refine jr_iload rfl rfl ?_
                          refine jr_icmp_lt rfl (fun m2MDisIn => ?_) (fun m2MDisIn => ?_)
                          · refine jr_ic rfl ?_
                            refine jr_zret rfl rfl rfl (Nat.zero_le _) (Nat.zero_le _) ?_
                            refine jr_if_ne rfl (fun z => absurd (by decide) z) (fun _ => ?_)
                            refine jr_ic rfl ?_
                            refine jr_iret rfl rfl (Nat.zero_le _) (Nat.zero_le _) ?_
                            first
                              | exact ⟨rfl, hRel0⟩
                              | (exfalso; omega)
                              | (exfalso; simp (disch := omega) only [Int32.lt_iff_toInt_lt, Int32.le_iff_toInt_le, ← Int32.toInt_inj, Int32.reduceToInt, nI_toInt] at c1 c4 c1RephasMonth c5RephasMonth c27 c34 m5MDhasMonths m4 m7 m2MDisIn; done)
                              | (exfalso; simp (disch := omega) only [Int32.lt_iff_toInt_lt, Int32.le_iff_toInt_le, ← Int32.toInt_inj, Int32.reduceToInt, nI_toInt] at c1 c4 c1RephasMonth c5RephasMonth c27 c34 m5MDhasMonths m4 m7 m2MDisIn; omega)
                          · refine jr_iload rfl rfl ?_
                            refine jr_iload rfl rfl ?_
                            refine jr_icmp_gt rfl (fun m5MDisIn => ?_) (fun m5MDisIn => ?_)
                            · refine jr_ic rfl ?_
                              refine jr_zret rfl rfl rfl (Nat.zero_le _) (Nat.zero_le _) ?_
                              refine jr_if_ne rfl (fun z => absurd (by decide) z) (fun _ => ?_)
                              refine jr_ic rfl ?_
                              refine jr_iret rfl rfl (Nat.zero_le _) (Nat.zero_le _) ?_
                              first
                                | exact ⟨rfl, hRel0⟩
                                | (exfalso; omega)
                                | (exfalso; simp (disch := omega) only [Int32.lt_iff_toInt_lt, Int32.le_iff_toInt_le, ← Int32.toInt_inj, Int32.reduceToInt, nI_toInt] at c1 c4 c1RephasMonth c5RephasMonth c27 c34 m5MDhasMonths m4 m7 m2MDisIn m5MDisIn; done)
                                | (exfalso; simp (disch := omega) only [Int32.lt_iff_toInt_lt, Int32.le_iff_toInt_le, ← Int32.toInt_inj, Int32.reduceToInt, nI_toInt] at c1 c4 c1RephasMonth c5RephasMonth c27 c34 m5MDhasMonths m4 m7 m2MDisIn m5MDisIn; omega)
                            · refine jr_ic rfl ?_
                              refine jr_goto rfl ?_
                              refine jr_zret rfl rfl rfl (Nat.zero_le _) (Nat.zero_le _) ?_
                              refine jr_if_ne rfl (fun _ => ?_) (fun z => absurd z (by decide))
                              refine jr_iload rfl rfl ?_
                              refine jr_aload rfl rfl ?_
                              refine jr_getR rfl rfl rfl rfl (Or.inl rfl) ?_
                              refine jr_aload rfl rfl ?_
                              refine jr_getI rfl rfl ?_
                              refine jr_iald (len := 2) rfl rfl hw.1 (by omega) ?_
                              refine jr_imul rfl ?_
                              refine jr_iload rfl rfl ?_
                              refine jr_iadd rfl ?_
                              rw [ek2]
                              refine jr_ist4 rfl rfl ?_
                              refine jr_iload rfl rfl ?_
                              refine jr_aload rfl rfl ?_
                              refine jr_getR rfl rfl rfl rfl (Or.inl rfl) ?_
                              refine jr_ic rfl ?_
                              refine jr_iald (len := 337) rfl rfl (show _ = nI 0 from rfl) (by decide) ?_
                              refine jr_icmp_ge rfl (fun z => absurd z (fun z => nI_ge hkw (by omega) ((show jh_I hm 98 0 0 = nI w from g1) ▸ z))) (fun _ => ?_)
                              refine jr_iload rfl rfl ?_
                              refine jr_ic rfl ?_
                              refine jr_aload rfl rfl ?_
                              refine jr_getR rfl rfl rfl rfl (Or.inl rfl) ?_
                              refine jr_ic rfl ?_
                              refine jr_iload rfl rfl ?_
                              refine jr_iadd rfl ?_
                              refine jr_iald (len := 337) rfl rfl (jn_add (show _ = nI 37 from rfl) rfl) (by omega) ?_
                              refine jr_cs3 (mc' := 0) (ms' := 0) rfl jm_MD_isIn_n jm_MD_isIn_f rfl rfl rfl rfl rfl (Nat.zero_le _) (Nat.zero_le _) ?_
                              show jx_W (jm_MD_isIn, _, _, _, _, _, _) _ 0 0 0 [some _, some _, some _] [] _
                              refine jr_iload rfl rfl ?_
                              refine jr_iload rfl rfl ?_
                              refine jr_icmp_lt rfl (fun m2MDisIn_2 => ?_) (fun m2MDisIn_2 => ?_)
                              · refine jr_ic rfl ?_
                                refine jr_zret rfl rfl rfl (Nat.zero_le _) (Nat.zero_le _) ?_
                                refine jr_if_ne rfl (fun z => absurd (by decide) z) (fun _ => ?_)
                                refine jr_ic rfl ?_
                                refine jr_iret rfl rfl (Nat.zero_le _) (Nat.zero_le _) ?_
                                first
                                  | exact ⟨rfl, hRel0⟩
                                  | (exfalso; omega)
                                  | (exfalso; simp (disch := omega) only [Int32.lt_iff_toInt_lt, Int32.le_iff_toInt_le, ← Int32.toInt_inj, Int32.reduceToInt, nI_toInt] at c1 c4 c1RephasMonth c5RephasMonth c27 c34 m5MDhasMonths m4 m7 m2MDisIn m5MDisIn m2MDisIn_2; done)
                                  | (exfalso; simp (disch := omega) only [Int32.lt_iff_toInt_lt, Int32.le_iff_toInt_le, ← Int32.toInt_inj, Int32.reduceToInt, nI_toInt] at c1 c4 c1RephasMonth c5RephasMonth c27 c34 m5MDhasMonths m4 m7 m2MDisIn m5MDisIn m2MDisIn_2; omega)
                              · refine jr_iload rfl rfl ?_
                                refine jr_iload rfl rfl ?_
                                refine jr_icmp_gt rfl (fun m5MDisIn_2 => ?_) (fun m5MDisIn_2 => ?_)
                                · refine jr_ic rfl ?_
                                  refine jr_zret rfl rfl rfl (Nat.zero_le _) (Nat.zero_le _) ?_
                                  refine jr_if_ne rfl (fun z => absurd (by decide) z) (fun _ => ?_)
                                  refine jr_ic rfl ?_
                                  refine jr_iret rfl rfl (Nat.zero_le _) (Nat.zero_le _) ?_
                                  first
                                    | exact ⟨rfl, hRel0⟩
                                    | (exfalso; omega)
                                    | (exfalso; simp (disch := omega) only [Int32.lt_iff_toInt_lt, Int32.le_iff_toInt_le, ← Int32.toInt_inj, Int32.reduceToInt, nI_toInt] at c1 c4 c1RephasMonth c5RephasMonth c27 c34 m5MDhasMonths m4 m7 m2MDisIn m5MDisIn m2MDisIn_2 m5MDisIn_2; done)
                                    | (exfalso; simp (disch := omega) only [Int32.lt_iff_toInt_lt, Int32.le_iff_toInt_le, ← Int32.toInt_inj, Int32.reduceToInt, nI_toInt] at c1 c4 c1RephasMonth c5RephasMonth c27 c34 m5MDhasMonths m4 m7 m2MDisIn m5MDisIn m2MDisIn_2 m5MDisIn_2; omega)
                                · refine jr_ic rfl ?_
                                  refine jr_goto rfl ?_
                                  refine jr_zret rfl rfl rfl (Nat.zero_le _) (Nat.zero_le _) ?_
                                  refine jr_if_ne rfl (fun _ => ?_) (fun z => absurd z (by decide))
                                  refine jr_iload rfl rfl ?_
                                  refine jr_ic rfl ?_
                                  refine jr_isub rfl ?_
                                  refine jr_ist5 rfl rfl ?_
                                  refine jr_ic rfl ?_
                                  refine jr_ist6 rfl rfl ?_
                                  have e := lp_MD_number (d := d + 40) (n0 := jh_n hm) (Q := fun r' hm' => some (jv_i (jw_sum (fun j => jA hm (37 + j)) k + z - 1)) = r' ∧ jz_Rel hc hm') (h := hm) (m := k) (u := nI y) (v := nI m) (z := z) (x := z - 1) 0 (by omega) (Nat.zero_le _) ⟨?_, hRel0⟩
                                  · rw [show z - 1 + jw_sum (fun j => jA hm (37 + j)) 0 = z - 1 from Int32.add_zero _] at e
                                    exact e
                                  · refine congrArg (fun z => some (jv_i z)) ?_
                                    simp only [Int32.sub_eq_add_neg]
                                    ac_rfl
                  · refine jr_ic rfl ?_
                    refine jr_iret rfl rfl (Nat.zero_le _) (Nat.zero_le _) ?_
                    show jx_W (jm_MD_number, d + 40, 0, 0, false, 1, _) _ 0 0 0 [some _, some _, some _, some _, none, none, none] [] _
                    refine jr_aload rfl rfl ?_
                    refine jr_cv0 (mc' := 0) (ms' := 0) rfl jm_MD_hasMonths_n jm_MD_hasMonths_f rfl rfl rfl rfl rfl rfl rfl (Nat.zero_le _) (Nat.zero_le _) ?_
                    show jx_W (jm_MD_hasMonths, _, _, _, _, _, _) _ 0 0 0 [some _] [] _
                    refine jr_aload rfl rfl ?_
                    refine jr_getR rfl rfl rfl rfl (Or.inl rfl) ?_
                    refine jr_aload rfl rfl ?_
                    refine jr_getI rfl rfl ?_
                    refine jr_iald (len := 2) rfl rfl hw.1 (by omega) ?_
                    refine jr_if_le rfl (fun m5MDhasMonths => ?_) (fun m5MDhasMonths => ?_)
                    · refine jr_ic rfl ?_
                      refine jr_zret rfl rfl rfl (Nat.zero_le _) (Nat.zero_le _) ?_
                      refine jr_if_eq rfl (fun _ => ?_) (fun z => absurd (by decide) z)
                      refine jr_ic rfl ?_
                      refine jr_iret rfl rfl (Nat.zero_le _) (Nat.zero_le _) ?_
                      first
                        | exact ⟨rfl, hRel0⟩
                        | (exfalso; omega)
                        | (exfalso; simp (disch := omega) only [Int32.lt_iff_toInt_lt, Int32.le_iff_toInt_le, ← Int32.toInt_inj, Int32.reduceToInt, nI_toInt] at c1 c4 c1RephasMonth c5RephasMonth c27 c34 m5MDhasMonths; done)
                        | (exfalso; simp (disch := omega) only [Int32.lt_iff_toInt_lt, Int32.le_iff_toInt_le, ← Int32.toInt_inj, Int32.reduceToInt, nI_toInt] at c1 c4 c1RephasMonth c5RephasMonth c27 c34 m5MDhasMonths; omega)
                    · refine jr_ic rfl ?_
                      refine jr_goto rfl ?_
                      refine jr_zret rfl rfl rfl (Nat.zero_le _) (Nat.zero_le _) ?_
                      refine jr_if_eq rfl (fun z => absurd z (by decide)) (fun _ => ?_)
                      refine jr_iload rfl rfl ?_
                      refine jr_if_lt rfl (fun m4 => ?_) (fun m4 => ?_)
                      · refine jr_ic rfl ?_
                        refine jr_iret rfl rfl (Nat.zero_le _) (Nat.zero_le _) ?_
                        first
                          | exact ⟨rfl, hRel0⟩
                          | (exfalso; omega)
                          | (exfalso; simp (disch := omega) only [Int32.lt_iff_toInt_lt, Int32.le_iff_toInt_le, ← Int32.toInt_inj, Int32.reduceToInt, nI_toInt] at c1 c4 c1RephasMonth c5RephasMonth c27 c34 m5MDhasMonths m4; done)
                          | (exfalso; simp (disch := omega) only [Int32.lt_iff_toInt_lt, Int32.le_iff_toInt_le, ← Int32.toInt_inj, Int32.reduceToInt, nI_toInt] at c1 c4 c1RephasMonth c5RephasMonth c27 c34 m5MDhasMonths m4; omega)
                      · refine jr_iload rfl rfl ?_
                        refine jr_ic rfl ?_
                        refine jr_icmp_gt rfl (fun m7 => ?_) (fun m7 => ?_)
                        · refine jr_ic rfl ?_
                          refine jr_iret rfl rfl (Nat.zero_le _) (Nat.zero_le _) ?_
                          first
                            | exact ⟨rfl, hRel0⟩
                            | (exfalso; omega)
                            | (exfalso; simp (disch := omega) only [Int32.lt_iff_toInt_lt, Int32.le_iff_toInt_le, ← Int32.toInt_inj, Int32.reduceToInt, nI_toInt] at c1 c4 c1RephasMonth c5RephasMonth c27 c34 m5MDhasMonths m4 m7; done)
                            | (exfalso; simp (disch := omega) only [Int32.lt_iff_toInt_lt, Int32.le_iff_toInt_le, ← Int32.toInt_inj, Int32.reduceToInt, nI_toInt] at c1 c4 c1RephasMonth c5RephasMonth c27 c34 m5MDhasMonths m4 m7; omega)
                        · refine jr_iload rfl rfl ?_
                          refine jr_ic rfl ?_
                          refine jr_aload rfl rfl ?_
                          refine jr_getR rfl rfl rfl rfl (Or.inl rfl) ?_
                          refine jr_aload rfl rfl ?_
                          refine jr_getI rfl rfl ?_
                          refine jr_iald (len := 2) rfl rfl hw.1 (by omega) ?_
                          refine jr_ic rfl ?_
                          refine jr_isub rfl ?_
                          refine jr_cs3 (mc' := 0) (ms' := 0) rfl jm_MD_isIn_n jm_MD_isIn_f rfl rfl rfl rfl rfl (Nat.zero_le _) (Nat.zero_le _) ?_
                          show jx_W (jm_MD_isIn, _, _, _, _, _, _) _ 0 0 0 [some _, some _, some _] [] _
                          refine jr_iload rfl rfl ?_
                          refine jr_iload rfl rfl ?_
                          refine jr_icmp_lt rfl (fun m2MDisIn => ?_) (fun m2MDisIn => ?_)
                          · refine jr_ic rfl ?_
                            refine jr_zret rfl rfl rfl (Nat.zero_le _) (Nat.zero_le _) ?_
                            refine jr_if_ne rfl (fun z => absurd (by decide) z) (fun _ => ?_)
                            refine jr_ic rfl ?_
                            refine jr_iret rfl rfl (Nat.zero_le _) (Nat.zero_le _) ?_
                            first
                              | exact ⟨rfl, hRel0⟩
                              | (exfalso; omega)
                              | (exfalso; simp (disch := omega) only [Int32.lt_iff_toInt_lt, Int32.le_iff_toInt_le, ← Int32.toInt_inj, Int32.reduceToInt, nI_toInt] at c1 c4 c1RephasMonth c5RephasMonth c27 c34 m5MDhasMonths m4 m7 m2MDisIn; done)
                              | (exfalso; simp (disch := omega) only [Int32.lt_iff_toInt_lt, Int32.le_iff_toInt_le, ← Int32.toInt_inj, Int32.reduceToInt, nI_toInt] at c1 c4 c1RephasMonth c5RephasMonth c27 c34 m5MDhasMonths m4 m7 m2MDisIn; omega)
                          · refine jr_iload rfl rfl ?_
                            refine jr_iload rfl rfl ?_
                            refine jr_icmp_gt rfl (fun m5MDisIn => ?_) (fun m5MDisIn => ?_)
                            · refine jr_ic rfl ?_
                              refine jr_zret rfl rfl rfl (Nat.zero_le _) (Nat.zero_le _) ?_
                              refine jr_if_ne rfl (fun z => absurd (by decide) z) (fun _ => ?_)
                              refine jr_ic rfl ?_
                              refine jr_iret rfl rfl (Nat.zero_le _) (Nat.zero_le _) ?_
                              first
                                | exact ⟨rfl, hRel0⟩
                                | (exfalso; omega)
                                | (exfalso; simp (disch := omega) only [Int32.lt_iff_toInt_lt, Int32.le_iff_toInt_le, ← Int32.toInt_inj, Int32.reduceToInt, nI_toInt] at c1 c4 c1RephasMonth c5RephasMonth c27 c34 m5MDhasMonths m4 m7 m2MDisIn m5MDisIn; done)
                                | (exfalso; simp (disch := omega) only [Int32.lt_iff_toInt_lt, Int32.le_iff_toInt_le, ← Int32.toInt_inj, Int32.reduceToInt, nI_toInt] at c1 c4 c1RephasMonth c5RephasMonth c27 c34 m5MDhasMonths m4 m7 m2MDisIn m5MDisIn; omega)
                            · refine jr_ic rfl ?_
                              refine jr_goto rfl ?_
                              refine jr_zret rfl rfl rfl (Nat.zero_le _) (Nat.zero_le _) ?_
                              refine jr_if_ne rfl (fun _ => ?_) (fun z => absurd z (by decide))
                              refine jr_iload rfl rfl ?_
                              refine jr_aload rfl rfl ?_
                              refine jr_getR rfl rfl rfl rfl (Or.inl rfl) ?_
                              refine jr_aload rfl rfl ?_
                              refine jr_getI rfl rfl ?_
                              refine jr_iald (len := 2) rfl rfl hw.1 (by omega) ?_
                              refine jr_imul rfl ?_
                              refine jr_iload rfl rfl ?_
                              refine jr_iadd rfl ?_
                              rw [ek2]
                              refine jr_ist4 rfl rfl ?_
                              refine jr_iload rfl rfl ?_
                              refine jr_aload rfl rfl ?_
                              refine jr_getR rfl rfl rfl rfl (Or.inl rfl) ?_
                              refine jr_ic rfl ?_
                              refine jr_iald (len := 337) rfl rfl (show _ = nI 0 from rfl) (by decide) ?_
                              refine jr_icmp_ge rfl (fun z => absurd z (fun z => nI_ge hkw (by omega) ((show jh_I hm 98 0 0 = nI w from g1) ▸ z))) (fun _ => ?_)
                              refine jr_iload rfl rfl ?_
                              refine jr_ic rfl ?_
                              refine jr_aload rfl rfl ?_
                              refine jr_getR rfl rfl rfl rfl (Or.inl rfl) ?_
                              refine jr_ic rfl ?_
                              refine jr_iload rfl rfl ?_
                              refine jr_iadd rfl ?_
                              refine jr_iald (len := 337) rfl rfl (jn_add (show _ = nI 37 from rfl) rfl) (by omega) ?_
                              refine jr_cs3 (mc' := 0) (ms' := 0) rfl jm_MD_isIn_n jm_MD_isIn_f rfl rfl rfl rfl rfl (Nat.zero_le _) (Nat.zero_le _) ?_
                              show jx_W (jm_MD_isIn, _, _, _, _, _, _) _ 0 0 0 [some _, some _, some _] [] _
                              refine jr_iload rfl rfl ?_
                              refine jr_iload rfl rfl ?_
                              refine jr_icmp_lt rfl (fun m2MDisIn_2 => ?_) (fun m2MDisIn_2 => ?_)
                              · refine jr_ic rfl ?_
                                refine jr_zret rfl rfl rfl (Nat.zero_le _) (Nat.zero_le _) ?_
                                refine jr_if_ne rfl (fun z => absurd (by decide) z) (fun _ => ?_)
                                refine jr_ic rfl ?_
                                refine jr_iret rfl rfl (Nat.zero_le _) (Nat.zero_le _) ?_
                                first
                                  | exact ⟨rfl, hRel0⟩
                                  | (exfalso; omega)
                                  | (exfalso; simp (disch := omega) only [Int32.lt_iff_toInt_lt, Int32.le_iff_toInt_le, ← Int32.toInt_inj, Int32.reduceToInt, nI_toInt] at c1 c4 c1RephasMonth c5RephasMonth c27 c34 m5MDhasMonths m4 m7 m2MDisIn m5MDisIn m2MDisIn_2; done)
                                  | (exfalso; simp (disch := omega) only [Int32.lt_iff_toInt_lt, Int32.le_iff_toInt_le, ← Int32.toInt_inj, Int32.reduceToInt, nI_toInt] at c1 c4 c1RephasMonth c5RephasMonth c27 c34 m5MDhasMonths m4 m7 m2MDisIn m5MDisIn m2MDisIn_2; omega)
                              · refine jr_iload rfl rfl ?_
                                refine jr_iload rfl rfl ?_
                                refine jr_icmp_gt rfl (fun m5MDisIn_2 => ?_) (fun m5MDisIn_2 => ?_)
                                · refine jr_ic rfl ?_
                                  refine jr_zret rfl rfl rfl (Nat.zero_le _) (Nat.zero_le _) ?_
                                  refine jr_if_ne rfl (fun z => absurd (by decide) z) (fun _ => ?_)
                                  refine jr_ic rfl ?_
                                  refine jr_iret rfl rfl (Nat.zero_le _) (Nat.zero_le _) ?_
                                  first
                                    | exact ⟨rfl, hRel0⟩
                                    | (exfalso; omega)
                                    | (exfalso; simp (disch := omega) only [Int32.lt_iff_toInt_lt, Int32.le_iff_toInt_le, ← Int32.toInt_inj, Int32.reduceToInt, nI_toInt] at c1 c4 c1RephasMonth c5RephasMonth c27 c34 m5MDhasMonths m4 m7 m2MDisIn m5MDisIn m2MDisIn_2 m5MDisIn_2; done)
                                    | (exfalso; simp (disch := omega) only [Int32.lt_iff_toInt_lt, Int32.le_iff_toInt_le, ← Int32.toInt_inj, Int32.reduceToInt, nI_toInt] at c1 c4 c1RephasMonth c5RephasMonth c27 c34 m5MDhasMonths m4 m7 m2MDisIn m5MDisIn m2MDisIn_2 m5MDisIn_2; omega)
                                · refine jr_ic rfl ?_
                                  refine jr_goto rfl ?_
                                  refine jr_zret rfl rfl rfl (Nat.zero_le _) (Nat.zero_le _) ?_
                                  refine jr_if_ne rfl (fun _ => ?_) (fun z => absurd z (by decide))
                                  refine jr_iload rfl rfl ?_
                                  refine jr_ic rfl ?_
                                  refine jr_isub rfl ?_
                                  refine jr_ist5 rfl rfl ?_
                                  refine jr_ic rfl ?_
                                  refine jr_ist6 rfl rfl ?_
                                  first
                                    | (exfalso; omega)
                                    | (exfalso; simp (disch := omega) only [Int32.lt_iff_toInt_lt, Int32.le_iff_toInt_le, ← Int32.toInt_inj, Int32.reduceToInt, nI_toInt] at c1 c4 c1RephasMonth c5RephasMonth c27 c34 m5MDhasMonths m4 m7 m2MDisIn m5MDisIn m2MDisIn_2 m5MDisIn_2; done)
                                    | (exfalso; simp (disch := omega) only [Int32.lt_iff_toInt_lt, Int32.le_iff_toInt_le, ← Int32.toInt_inj, Int32.reduceToInt, nI_toInt] at c1 c4 c1RephasMonth c5RephasMonth c27 c34 m5MDhasMonths m4 m7 m2MDisIn m5MDisIn m2MDisIn_2 m5MDisIn_2; omega)
      · show jx_W (jm_JV_number, d + 40, 0, 0, false, 0, _) _ 0 0 0 [some (jv_r 10 0), some (jv_i (nI y)), some (jv_i (nI m)), some (jv_i z), none] [] _
        refine jr_iload rfl rfl ?_
        refine jr_if_lt rfl (fun c1 => ?_) (fun c1 => ?_)
        · refine jr_ic rfl ?_
          refine jr_iret rfl rfl (Nat.zero_le _) (Nat.zero_le _) ?_
          show jx_W (jm_MD_number, d + 40, 0, 0, false, 1, _) _ 0 0 0 [some _, some _, some _, some _, none, none, none] [] _
          refine jr_aload rfl rfl ?_
          refine jr_cv0 (mc' := 0) (ms' := 0) rfl jm_MD_hasMonths_n jm_MD_hasMonths_f rfl rfl rfl rfl rfl rfl rfl (Nat.zero_le _) (Nat.zero_le _) ?_
          show jx_W (jm_MD_hasMonths, _, _, _, _, _, _) _ 0 0 0 [some _] [] _
          refine jr_aload rfl rfl ?_
          refine jr_getR rfl rfl rfl rfl (Or.inl rfl) ?_
          refine jr_aload rfl rfl ?_
          refine jr_getI rfl rfl ?_
          refine jr_iald (len := 2) rfl rfl hw.1 (by omega) ?_
          refine jr_if_le rfl (fun m5MDhasMonths => ?_) (fun m5MDhasMonths => ?_)
          · refine jr_ic rfl ?_
            refine jr_zret rfl rfl rfl (Nat.zero_le _) (Nat.zero_le _) ?_
            refine jr_if_eq rfl (fun _ => ?_) (fun z => absurd (by decide) z)
            refine jr_ic rfl ?_
            refine jr_iret rfl rfl (Nat.zero_le _) (Nat.zero_le _) ?_
            first
              | exact ⟨rfl, hRel0⟩
              | (exfalso; omega)
              | (exfalso; simp (disch := omega) only [Int32.lt_iff_toInt_lt, Int32.le_iff_toInt_le, ← Int32.toInt_inj, Int32.reduceToInt, nI_toInt] at c1 m5MDhasMonths; done)
              | (exfalso; simp (disch := omega) only [Int32.lt_iff_toInt_lt, Int32.le_iff_toInt_le, ← Int32.toInt_inj, Int32.reduceToInt, nI_toInt] at c1 m5MDhasMonths; omega)
          · refine jr_ic rfl ?_
            refine jr_goto rfl ?_
            refine jr_zret rfl rfl rfl (Nat.zero_le _) (Nat.zero_le _) ?_
            refine jr_if_eq rfl (fun z => absurd z (by decide)) (fun _ => ?_)
            refine jr_iload rfl rfl ?_
            refine jr_if_lt rfl (fun m4 => ?_) (fun m4 => ?_)
            · refine jr_ic rfl ?_
              refine jr_iret rfl rfl (Nat.zero_le _) (Nat.zero_le _) ?_
              first
                | exact ⟨rfl, hRel0⟩
                | (exfalso; omega)
                | (exfalso; simp (disch := omega) only [Int32.lt_iff_toInt_lt, Int32.le_iff_toInt_le, ← Int32.toInt_inj, Int32.reduceToInt, nI_toInt] at c1 m5MDhasMonths m4; done)
                | (exfalso; simp (disch := omega) only [Int32.lt_iff_toInt_lt, Int32.le_iff_toInt_le, ← Int32.toInt_inj, Int32.reduceToInt, nI_toInt] at c1 m5MDhasMonths m4; omega)
            · refine jr_iload rfl rfl ?_
              refine jr_ic rfl ?_
              refine jr_icmp_gt rfl (fun m7 => ?_) (fun m7 => ?_)
              · refine jr_ic rfl ?_
                refine jr_iret rfl rfl (Nat.zero_le _) (Nat.zero_le _) ?_
                first
                  | exact ⟨rfl, hRel0⟩
                  | (exfalso; omega)
                  | (exfalso; simp (disch := omega) only [Int32.lt_iff_toInt_lt, Int32.le_iff_toInt_le, ← Int32.toInt_inj, Int32.reduceToInt, nI_toInt] at c1 m5MDhasMonths m4 m7; done)
                  | (exfalso; simp (disch := omega) only [Int32.lt_iff_toInt_lt, Int32.le_iff_toInt_le, ← Int32.toInt_inj, Int32.reduceToInt, nI_toInt] at c1 m5MDhasMonths m4 m7; omega)
              · refine jr_iload rfl rfl ?_
                refine jr_ic rfl ?_
                refine jr_aload rfl rfl ?_
                refine jr_getR rfl rfl rfl rfl (Or.inl rfl) ?_
                refine jr_aload rfl rfl ?_
                refine jr_getI rfl rfl ?_
                refine jr_iald (len := 2) rfl rfl hw.1 (by omega) ?_
                refine jr_ic rfl ?_
                refine jr_isub rfl ?_
                refine jr_cs3 (mc' := 0) (ms' := 0) rfl jm_MD_isIn_n jm_MD_isIn_f rfl rfl rfl rfl rfl (Nat.zero_le _) (Nat.zero_le _) ?_
                show jx_W (jm_MD_isIn, _, _, _, _, _, _) _ 0 0 0 [some _, some _, some _] [] _
                refine jr_iload rfl rfl ?_
                refine jr_iload rfl rfl ?_
                refine jr_icmp_lt rfl (fun m2MDisIn => ?_) (fun m2MDisIn => ?_)
                · refine jr_ic rfl ?_
                  refine jr_zret rfl rfl rfl (Nat.zero_le _) (Nat.zero_le _) ?_
                  refine jr_if_ne rfl (fun z => absurd (by decide) z) (fun _ => ?_)
                  refine jr_ic rfl ?_
                  refine jr_iret rfl rfl (Nat.zero_le _) (Nat.zero_le _) ?_
                  first
                    | exact ⟨rfl, hRel0⟩
                    | (exfalso; omega)
                    | (exfalso; simp (disch := omega) only [Int32.lt_iff_toInt_lt, Int32.le_iff_toInt_le, ← Int32.toInt_inj, Int32.reduceToInt, nI_toInt] at c1 m5MDhasMonths m4 m7 m2MDisIn; done)
                    | (exfalso; simp (disch := omega) only [Int32.lt_iff_toInt_lt, Int32.le_iff_toInt_le, ← Int32.toInt_inj, Int32.reduceToInt, nI_toInt] at c1 m5MDhasMonths m4 m7 m2MDisIn; omega)
                · refine jr_iload rfl rfl ?_
                  refine jr_iload rfl rfl ?_
                  refine jr_icmp_gt rfl (fun m5MDisIn => ?_) (fun m5MDisIn => ?_)
                  · refine jr_ic rfl ?_
                    refine jr_zret rfl rfl rfl (Nat.zero_le _) (Nat.zero_le _) ?_
                    refine jr_if_ne rfl (fun z => absurd (by decide) z) (fun _ => ?_)
                    refine jr_ic rfl ?_
                    refine jr_iret rfl rfl (Nat.zero_le _) (Nat.zero_le _) ?_
                    first
                      | exact ⟨rfl, hRel0⟩
                      | (exfalso; omega)
                      | (exfalso; simp (disch := omega) only [Int32.lt_iff_toInt_lt, Int32.le_iff_toInt_le, ← Int32.toInt_inj, Int32.reduceToInt, nI_toInt] at c1 m5MDhasMonths m4 m7 m2MDisIn m5MDisIn; done)
                      | (exfalso; simp (disch := omega) only [Int32.lt_iff_toInt_lt, Int32.le_iff_toInt_le, ← Int32.toInt_inj, Int32.reduceToInt, nI_toInt] at c1 m5MDhasMonths m4 m7 m2MDisIn m5MDisIn; omega)
                  · refine jr_ic rfl ?_
                    refine jr_goto rfl ?_
                    refine jr_zret rfl rfl rfl (Nat.zero_le _) (Nat.zero_le _) ?_
                    refine jr_if_ne rfl (fun _ => ?_) (fun z => absurd z (by decide))
                    refine jr_iload rfl rfl ?_
                    refine jr_aload rfl rfl ?_
                    refine jr_getR rfl rfl rfl rfl (Or.inl rfl) ?_
                    refine jr_aload rfl rfl ?_
                    refine jr_getI rfl rfl ?_
                    refine jr_iald (len := 2) rfl rfl hw.1 (by omega) ?_
                    refine jr_imul rfl ?_
                    refine jr_iload rfl rfl ?_
                    refine jr_iadd rfl ?_
                    rw [ek2]
                    refine jr_ist4 rfl rfl ?_
                    refine jr_iload rfl rfl ?_
                    refine jr_aload rfl rfl ?_
                    refine jr_getR rfl rfl rfl rfl (Or.inl rfl) ?_
                    refine jr_ic rfl ?_
                    refine jr_iald (len := 337) rfl rfl (show _ = nI 0 from rfl) (by decide) ?_
                    refine jr_icmp_ge rfl (fun _ => ?_) (fun z => absurd ((show jh_I hm 98 0 0 = nI w from g1) ▸ nI_le hkw (by omega)) z)
                    refine jr_ic rfl ?_
                    refine jr_iret rfl rfl (Nat.zero_le _) (Nat.zero_le _) ?_
                    first
                      | exact ⟨rfl, hRel0⟩
                      | (exfalso; omega)
                      | (exfalso; simp (disch := omega) only [Int32.lt_iff_toInt_lt, Int32.le_iff_toInt_le, ← Int32.toInt_inj, Int32.reduceToInt, nI_toInt] at c1 m5MDhasMonths m4 m7 m2MDisIn m5MDisIn; done)
                      | (exfalso; simp (disch := omega) only [Int32.lt_iff_toInt_lt, Int32.le_iff_toInt_le, ← Int32.toInt_inj, Int32.reduceToInt, nI_toInt] at c1 m5MDhasMonths m4 m7 m2MDisIn m5MDisIn; omega)
        · refine jr_iload rfl rfl ?_
          refine jr_ic rfl ?_
          refine jr_icmp_gt rfl (fun c4 => ?_) (fun c4 => ?_)
          · refine jr_ic rfl ?_
            refine jr_iret rfl rfl (Nat.zero_le _) (Nat.zero_le _) ?_
            show jx_W (jm_MD_number, d + 40, 0, 0, false, 1, _) _ 0 0 0 [some _, some _, some _, some _, none, none, none] [] _
            refine jr_aload rfl rfl ?_
            refine jr_cv0 (mc' := 0) (ms' := 0) rfl jm_MD_hasMonths_n jm_MD_hasMonths_f rfl rfl rfl rfl rfl rfl rfl (Nat.zero_le _) (Nat.zero_le _) ?_
            show jx_W (jm_MD_hasMonths, _, _, _, _, _, _) _ 0 0 0 [some _] [] _
            refine jr_aload rfl rfl ?_
            refine jr_getR rfl rfl rfl rfl (Or.inl rfl) ?_
            refine jr_aload rfl rfl ?_
            refine jr_getI rfl rfl ?_
            refine jr_iald (len := 2) rfl rfl hw.1 (by omega) ?_
            refine jr_if_le rfl (fun m5MDhasMonths => ?_) (fun m5MDhasMonths => ?_)
            · refine jr_ic rfl ?_
              refine jr_zret rfl rfl rfl (Nat.zero_le _) (Nat.zero_le _) ?_
              refine jr_if_eq rfl (fun _ => ?_) (fun z => absurd (by decide) z)
              refine jr_ic rfl ?_
              refine jr_iret rfl rfl (Nat.zero_le _) (Nat.zero_le _) ?_
              first
                | exact ⟨rfl, hRel0⟩
                | (exfalso; omega)
                | (exfalso; simp (disch := omega) only [Int32.lt_iff_toInt_lt, Int32.le_iff_toInt_le, ← Int32.toInt_inj, Int32.reduceToInt, nI_toInt] at c1 c4 m5MDhasMonths; done)
                | (exfalso; simp (disch := omega) only [Int32.lt_iff_toInt_lt, Int32.le_iff_toInt_le, ← Int32.toInt_inj, Int32.reduceToInt, nI_toInt] at c1 c4 m5MDhasMonths; omega)
            · refine jr_ic rfl ?_
              refine jr_goto rfl ?_
              refine jr_zret rfl rfl rfl (Nat.zero_le _) (Nat.zero_le _) ?_
              refine jr_if_eq rfl (fun z => absurd z (by decide)) (fun _ => ?_)
              refine jr_iload rfl rfl ?_
              refine jr_if_lt rfl (fun m4 => ?_) (fun m4 => ?_)
              · refine jr_ic rfl ?_
                refine jr_iret rfl rfl (Nat.zero_le _) (Nat.zero_le _) ?_
                first
                  | exact ⟨rfl, hRel0⟩
                  | (exfalso; omega)
                  | (exfalso; simp (disch := omega) only [Int32.lt_iff_toInt_lt, Int32.le_iff_toInt_le, ← Int32.toInt_inj, Int32.reduceToInt, nI_toInt] at c1 c4 m5MDhasMonths m4; done)
                  | (exfalso; simp (disch := omega) only [Int32.lt_iff_toInt_lt, Int32.le_iff_toInt_le, ← Int32.toInt_inj, Int32.reduceToInt, nI_toInt] at c1 c4 m5MDhasMonths m4; omega)
              · refine jr_iload rfl rfl ?_
                refine jr_ic rfl ?_
                refine jr_icmp_gt rfl (fun m7 => ?_) (fun m7 => ?_)
                · refine jr_ic rfl ?_
                  refine jr_iret rfl rfl (Nat.zero_le _) (Nat.zero_le _) ?_
                  first
                    | exact ⟨rfl, hRel0⟩
                    | (exfalso; omega)
                    | (exfalso; simp (disch := omega) only [Int32.lt_iff_toInt_lt, Int32.le_iff_toInt_le, ← Int32.toInt_inj, Int32.reduceToInt, nI_toInt] at c1 c4 m5MDhasMonths m4 m7; done)
                    | (exfalso; simp (disch := omega) only [Int32.lt_iff_toInt_lt, Int32.le_iff_toInt_le, ← Int32.toInt_inj, Int32.reduceToInt, nI_toInt] at c1 c4 m5MDhasMonths m4 m7; omega)
                · refine jr_iload rfl rfl ?_
                  refine jr_ic rfl ?_
                  refine jr_aload rfl rfl ?_
                  refine jr_getR rfl rfl rfl rfl (Or.inl rfl) ?_
                  refine jr_aload rfl rfl ?_
                  refine jr_getI rfl rfl ?_
                  refine jr_iald (len := 2) rfl rfl hw.1 (by omega) ?_
                  refine jr_ic rfl ?_
                  refine jr_isub rfl ?_
                  refine jr_cs3 (mc' := 0) (ms' := 0) rfl jm_MD_isIn_n jm_MD_isIn_f rfl rfl rfl rfl rfl (Nat.zero_le _) (Nat.zero_le _) ?_
                  show jx_W (jm_MD_isIn, _, _, _, _, _, _) _ 0 0 0 [some _, some _, some _] [] _
                  refine jr_iload rfl rfl ?_
                  refine jr_iload rfl rfl ?_
                  refine jr_icmp_lt rfl (fun m2MDisIn => ?_) (fun m2MDisIn => ?_)
                  · refine jr_ic rfl ?_
                    refine jr_zret rfl rfl rfl (Nat.zero_le _) (Nat.zero_le _) ?_
                    refine jr_if_ne rfl (fun z => absurd (by decide) z) (fun _ => ?_)
                    refine jr_ic rfl ?_
                    refine jr_iret rfl rfl (Nat.zero_le _) (Nat.zero_le _) ?_
                    first
                      | exact ⟨rfl, hRel0⟩
                      | (exfalso; omega)
                      | (exfalso; simp (disch := omega) only [Int32.lt_iff_toInt_lt, Int32.le_iff_toInt_le, ← Int32.toInt_inj, Int32.reduceToInt, nI_toInt] at c1 c4 m5MDhasMonths m4 m7 m2MDisIn; done)
                      | (exfalso; simp (disch := omega) only [Int32.lt_iff_toInt_lt, Int32.le_iff_toInt_le, ← Int32.toInt_inj, Int32.reduceToInt, nI_toInt] at c1 c4 m5MDhasMonths m4 m7 m2MDisIn; omega)
                  · refine jr_iload rfl rfl ?_
                    refine jr_iload rfl rfl ?_
                    refine jr_icmp_gt rfl (fun m5MDisIn => ?_) (fun m5MDisIn => ?_)
                    · refine jr_ic rfl ?_
                      refine jr_zret rfl rfl rfl (Nat.zero_le _) (Nat.zero_le _) ?_
                      refine jr_if_ne rfl (fun z => absurd (by decide) z) (fun _ => ?_)
                      refine jr_ic rfl ?_
                      refine jr_iret rfl rfl (Nat.zero_le _) (Nat.zero_le _) ?_
                      first
                        | exact ⟨rfl, hRel0⟩
                        | (exfalso; omega)
                        | (exfalso; simp (disch := omega) only [Int32.lt_iff_toInt_lt, Int32.le_iff_toInt_le, ← Int32.toInt_inj, Int32.reduceToInt, nI_toInt] at c1 c4 m5MDhasMonths m4 m7 m2MDisIn m5MDisIn; done)
                        | (exfalso; simp (disch := omega) only [Int32.lt_iff_toInt_lt, Int32.le_iff_toInt_le, ← Int32.toInt_inj, Int32.reduceToInt, nI_toInt] at c1 c4 m5MDhasMonths m4 m7 m2MDisIn m5MDisIn; omega)
                    · refine jr_ic rfl ?_
                      refine jr_goto rfl ?_
                      refine jr_zret rfl rfl rfl (Nat.zero_le _) (Nat.zero_le _) ?_
                      refine jr_if_ne rfl (fun _ => ?_) (fun z => absurd z (by decide))
                      refine jr_iload rfl rfl ?_
                      refine jr_aload rfl rfl ?_
                      refine jr_getR rfl rfl rfl rfl (Or.inl rfl) ?_
                      refine jr_aload rfl rfl ?_
                      refine jr_getI rfl rfl ?_
                      refine jr_iald (len := 2) rfl rfl hw.1 (by omega) ?_
                      refine jr_imul rfl ?_
                      refine jr_iload rfl rfl ?_
                      refine jr_iadd rfl ?_
                      rw [ek2]
                      refine jr_ist4 rfl rfl ?_
                      refine jr_iload rfl rfl ?_
                      refine jr_aload rfl rfl ?_
                      refine jr_getR rfl rfl rfl rfl (Or.inl rfl) ?_
                      refine jr_ic rfl ?_
                      refine jr_iald (len := 337) rfl rfl (show _ = nI 0 from rfl) (by decide) ?_
                      refine jr_icmp_ge rfl (fun _ => ?_) (fun z => absurd ((show jh_I hm 98 0 0 = nI w from g1) ▸ nI_le hkw (by omega)) z)
                      refine jr_ic rfl ?_
                      refine jr_iret rfl rfl (Nat.zero_le _) (Nat.zero_le _) ?_
                      first
                        | exact ⟨rfl, hRel0⟩
                        | (exfalso; omega)
                        | (exfalso; simp (disch := omega) only [Int32.lt_iff_toInt_lt, Int32.le_iff_toInt_le, ← Int32.toInt_inj, Int32.reduceToInt, nI_toInt] at c1 c4 m5MDhasMonths m4 m7 m2MDisIn m5MDisIn; done)
                        | (exfalso; simp (disch := omega) only [Int32.lt_iff_toInt_lt, Int32.le_iff_toInt_le, ← Int32.toInt_inj, Int32.reduceToInt, nI_toInt] at c1 c4 m5MDhasMonths m4 m7 m2MDisIn m5MDisIn; omega)
          · refine jr_aload rfl rfl ?_
            refine jr_getM rfl rfl rfl rfl hto ?_
            refine jr_iload rfl rfl ?_
            refine jr_cv1 (mc' := 0) (ms' := 0) rfl jm_Rep_hasMonth_n jm_Rep_hasMonth_f rfl rfl rfl rfl rfl rfl rfl (Nat.zero_le _) (Nat.zero_le _) ?_
            show jx_W (jm_Rep_hasMonth, _, _, _, _, _, _) _ 0 0 0 [some _, some _] [] _
            refine jr_iload rfl rfl ?_
            refine jr_if_lt rfl (fun c1RephasMonth => ?_) (fun c1RephasMonth => ?_)
            · refine jr_ic rfl ?_
              refine jr_zret rfl rfl rfl (Nat.zero_le _) (Nat.zero_le _) ?_
              refine jr_if_ne rfl (fun z => absurd (by decide) z) (fun _ => ?_)
              refine jr_ic rfl ?_
              refine jr_iret rfl rfl (Nat.zero_le _) (Nat.zero_le _) ?_
              show jx_W (jm_MD_number, d + 40, 0, 0, false, 1, _) _ 0 0 0 [some _, some _, some _, some _, none, none, none] [] _
              refine jr_aload rfl rfl ?_
              refine jr_cv0 (mc' := 0) (ms' := 0) rfl jm_MD_hasMonths_n jm_MD_hasMonths_f rfl rfl rfl rfl rfl rfl rfl (Nat.zero_le _) (Nat.zero_le _) ?_
              show jx_W (jm_MD_hasMonths, _, _, _, _, _, _) _ 0 0 0 [some _] [] _
              refine jr_aload rfl rfl ?_
              refine jr_getR rfl rfl rfl rfl (Or.inl rfl) ?_
              refine jr_aload rfl rfl ?_
              refine jr_getI rfl rfl ?_
              refine jr_iald (len := 2) rfl rfl hw.1 (by omega) ?_
              refine jr_if_le rfl (fun m5MDhasMonths => ?_) (fun m5MDhasMonths => ?_)
              · refine jr_ic rfl ?_
                refine jr_zret rfl rfl rfl (Nat.zero_le _) (Nat.zero_le _) ?_
                refine jr_if_eq rfl (fun _ => ?_) (fun z => absurd (by decide) z)
                refine jr_ic rfl ?_
                refine jr_iret rfl rfl (Nat.zero_le _) (Nat.zero_le _) ?_
                first
                  | exact ⟨rfl, hRel0⟩
                  | (exfalso; omega)
                  | (exfalso; simp (disch := omega) only [Int32.lt_iff_toInt_lt, Int32.le_iff_toInt_le, ← Int32.toInt_inj, Int32.reduceToInt, nI_toInt] at c1 c4 c1RephasMonth m5MDhasMonths; done)
                  | (exfalso; simp (disch := omega) only [Int32.lt_iff_toInt_lt, Int32.le_iff_toInt_le, ← Int32.toInt_inj, Int32.reduceToInt, nI_toInt] at c1 c4 c1RephasMonth m5MDhasMonths; omega)
              · refine jr_ic rfl ?_
                refine jr_goto rfl ?_
                refine jr_zret rfl rfl rfl (Nat.zero_le _) (Nat.zero_le _) ?_
                refine jr_if_eq rfl (fun z => absurd z (by decide)) (fun _ => ?_)
                refine jr_iload rfl rfl ?_
                refine jr_if_lt rfl (fun m4 => ?_) (fun m4 => ?_)
                · refine jr_ic rfl ?_
                  refine jr_iret rfl rfl (Nat.zero_le _) (Nat.zero_le _) ?_
                  first
                    | exact ⟨rfl, hRel0⟩
                    | (exfalso; omega)
                    | (exfalso; simp (disch := omega) only [Int32.lt_iff_toInt_lt, Int32.le_iff_toInt_le, ← Int32.toInt_inj, Int32.reduceToInt, nI_toInt] at c1 c4 c1RephasMonth m5MDhasMonths m4; done)
                    | (exfalso; simp (disch := omega) only [Int32.lt_iff_toInt_lt, Int32.le_iff_toInt_le, ← Int32.toInt_inj, Int32.reduceToInt, nI_toInt] at c1 c4 c1RephasMonth m5MDhasMonths m4; omega)
                · refine jr_iload rfl rfl ?_
                  refine jr_ic rfl ?_
                  refine jr_icmp_gt rfl (fun m7 => ?_) (fun m7 => ?_)
                  · refine jr_ic rfl ?_
                    refine jr_iret rfl rfl (Nat.zero_le _) (Nat.zero_le _) ?_
                    first
                      | exact ⟨rfl, hRel0⟩
                      | (exfalso; omega)
                      | (exfalso; simp (disch := omega) only [Int32.lt_iff_toInt_lt, Int32.le_iff_toInt_le, ← Int32.toInt_inj, Int32.reduceToInt, nI_toInt] at c1 c4 c1RephasMonth m5MDhasMonths m4 m7; done)
                      | (exfalso; simp (disch := omega) only [Int32.lt_iff_toInt_lt, Int32.le_iff_toInt_le, ← Int32.toInt_inj, Int32.reduceToInt, nI_toInt] at c1 c4 c1RephasMonth m5MDhasMonths m4 m7; omega)
                  · refine jr_iload rfl rfl ?_
                    refine jr_ic rfl ?_
                    refine jr_aload rfl rfl ?_
                    refine jr_getR rfl rfl rfl rfl (Or.inl rfl) ?_
                    refine jr_aload rfl rfl ?_
                    refine jr_getI rfl rfl ?_
                    refine jr_iald (len := 2) rfl rfl hw.1 (by omega) ?_
                    refine jr_ic rfl ?_
                    refine jr_isub rfl ?_
                    refine jr_cs3 (mc' := 0) (ms' := 0) rfl jm_MD_isIn_n jm_MD_isIn_f rfl rfl rfl rfl rfl (Nat.zero_le _) (Nat.zero_le _) ?_
                    show jx_W (jm_MD_isIn, _, _, _, _, _, _) _ 0 0 0 [some _, some _, some _] [] _
                    refine jr_iload rfl rfl ?_
                    refine jr_iload rfl rfl ?_
                    refine jr_icmp_lt rfl (fun m2MDisIn => ?_) (fun m2MDisIn => ?_)
                    · refine jr_ic rfl ?_
                      refine jr_zret rfl rfl rfl (Nat.zero_le _) (Nat.zero_le _) ?_
                      refine jr_if_ne rfl (fun z => absurd (by decide) z) (fun _ => ?_)
                      refine jr_ic rfl ?_
                      refine jr_iret rfl rfl (Nat.zero_le _) (Nat.zero_le _) ?_
                      first
                        | exact ⟨rfl, hRel0⟩
                        | (exfalso; omega)
                        | (exfalso; simp (disch := omega) only [Int32.lt_iff_toInt_lt, Int32.le_iff_toInt_le, ← Int32.toInt_inj, Int32.reduceToInt, nI_toInt] at c1 c4 c1RephasMonth m5MDhasMonths m4 m7 m2MDisIn; done)
                        | (exfalso; simp (disch := omega) only [Int32.lt_iff_toInt_lt, Int32.le_iff_toInt_le, ← Int32.toInt_inj, Int32.reduceToInt, nI_toInt] at c1 c4 c1RephasMonth m5MDhasMonths m4 m7 m2MDisIn; omega)
                    · refine jr_iload rfl rfl ?_
                      refine jr_iload rfl rfl ?_
                      refine jr_icmp_gt rfl (fun m5MDisIn => ?_) (fun m5MDisIn => ?_)
                      · refine jr_ic rfl ?_
                        refine jr_zret rfl rfl rfl (Nat.zero_le _) (Nat.zero_le _) ?_
                        refine jr_if_ne rfl (fun z => absurd (by decide) z) (fun _ => ?_)
                        refine jr_ic rfl ?_
                        refine jr_iret rfl rfl (Nat.zero_le _) (Nat.zero_le _) ?_
                        first
                          | exact ⟨rfl, hRel0⟩
                          | (exfalso; omega)
                          | (exfalso; simp (disch := omega) only [Int32.lt_iff_toInt_lt, Int32.le_iff_toInt_le, ← Int32.toInt_inj, Int32.reduceToInt, nI_toInt] at c1 c4 c1RephasMonth m5MDhasMonths m4 m7 m2MDisIn m5MDisIn; done)
                          | (exfalso; simp (disch := omega) only [Int32.lt_iff_toInt_lt, Int32.le_iff_toInt_le, ← Int32.toInt_inj, Int32.reduceToInt, nI_toInt] at c1 c4 c1RephasMonth m5MDhasMonths m4 m7 m2MDisIn m5MDisIn; omega)
                      · refine jr_ic rfl ?_
                        refine jr_goto rfl ?_
                        refine jr_zret rfl rfl rfl (Nat.zero_le _) (Nat.zero_le _) ?_
                        refine jr_if_ne rfl (fun _ => ?_) (fun z => absurd z (by decide))
                        refine jr_iload rfl rfl ?_
                        refine jr_aload rfl rfl ?_
                        refine jr_getR rfl rfl rfl rfl (Or.inl rfl) ?_
                        refine jr_aload rfl rfl ?_
                        refine jr_getI rfl rfl ?_
                        refine jr_iald (len := 2) rfl rfl hw.1 (by omega) ?_
                        refine jr_imul rfl ?_
                        refine jr_iload rfl rfl ?_
                        refine jr_iadd rfl ?_
                        rw [ek2]
                        refine jr_ist4 rfl rfl ?_
                        refine jr_iload rfl rfl ?_
                        refine jr_aload rfl rfl ?_
                        refine jr_getR rfl rfl rfl rfl (Or.inl rfl) ?_
                        refine jr_ic rfl ?_
                        refine jr_iald (len := 337) rfl rfl (show _ = nI 0 from rfl) (by decide) ?_
                        refine jr_icmp_ge rfl (fun _ => ?_) (fun z => absurd ((show jh_I hm 98 0 0 = nI w from g1) ▸ nI_le hkw (by omega)) z)
                        refine jr_ic rfl ?_
                        refine jr_iret rfl rfl (Nat.zero_le _) (Nat.zero_le _) ?_
                        first
                          | exact ⟨rfl, hRel0⟩
                          | (exfalso; omega)
                          | (exfalso; simp (disch := omega) only [Int32.lt_iff_toInt_lt, Int32.le_iff_toInt_le, ← Int32.toInt_inj, Int32.reduceToInt, nI_toInt] at c1 c4 c1RephasMonth m5MDhasMonths m4 m7 m2MDisIn m5MDisIn; done)
                          | (exfalso; simp (disch := omega) only [Int32.lt_iff_toInt_lt, Int32.le_iff_toInt_le, ← Int32.toInt_inj, Int32.reduceToInt, nI_toInt] at c1 c4 c1RephasMonth m5MDhasMonths m4 m7 m2MDisIn m5MDisIn; omega)
            · refine jr_iload rfl rfl ?_
              refine jr_aload rfl rfl ?_
              refine jr_getI rfl rfl ?_
              refine jr_icmp_ge rfl (fun c5RephasMonth => ?_) (fun c5RephasMonth => ?_)
              · refine jr_ic rfl ?_
                refine jr_zret rfl rfl rfl (Nat.zero_le _) (Nat.zero_le _) ?_
                refine jr_if_ne rfl (fun z => absurd (by decide) z) (fun _ => ?_)
                refine jr_ic rfl ?_
                refine jr_iret rfl rfl (Nat.zero_le _) (Nat.zero_le _) ?_
                show jx_W (jm_MD_number, d + 40, 0, 0, false, 1, _) _ 0 0 0 [some _, some _, some _, some _, none, none, none] [] _
                refine jr_aload rfl rfl ?_
                refine jr_cv0 (mc' := 0) (ms' := 0) rfl jm_MD_hasMonths_n jm_MD_hasMonths_f rfl rfl rfl rfl rfl rfl rfl (Nat.zero_le _) (Nat.zero_le _) ?_
                show jx_W (jm_MD_hasMonths, _, _, _, _, _, _) _ 0 0 0 [some _] [] _
                refine jr_aload rfl rfl ?_
                refine jr_getR rfl rfl rfl rfl (Or.inl rfl) ?_
                refine jr_aload rfl rfl ?_
                refine jr_getI rfl rfl ?_
                refine jr_iald (len := 2) rfl rfl hw.1 (by omega) ?_
                refine jr_if_le rfl (fun m5MDhasMonths => ?_) (fun m5MDhasMonths => ?_)
                · refine jr_ic rfl ?_
                  refine jr_zret rfl rfl rfl (Nat.zero_le _) (Nat.zero_le _) ?_
                  refine jr_if_eq rfl (fun _ => ?_) (fun z => absurd (by decide) z)
                  refine jr_ic rfl ?_
                  refine jr_iret rfl rfl (Nat.zero_le _) (Nat.zero_le _) ?_
                  first
                    | exact ⟨rfl, hRel0⟩
                    | (exfalso; omega)
                    | (exfalso; simp (disch := omega) only [Int32.lt_iff_toInt_lt, Int32.le_iff_toInt_le, ← Int32.toInt_inj, Int32.reduceToInt, nI_toInt] at c1 c4 c1RephasMonth c5RephasMonth m5MDhasMonths; done)
                    | (exfalso; simp (disch := omega) only [Int32.lt_iff_toInt_lt, Int32.le_iff_toInt_le, ← Int32.toInt_inj, Int32.reduceToInt, nI_toInt] at c1 c4 c1RephasMonth c5RephasMonth m5MDhasMonths; omega)
                · refine jr_ic rfl ?_
                  refine jr_goto rfl ?_
                  refine jr_zret rfl rfl rfl (Nat.zero_le _) (Nat.zero_le _) ?_
                  refine jr_if_eq rfl (fun z => absurd z (by decide)) (fun _ => ?_)
                  refine jr_iload rfl rfl ?_
                  refine jr_if_lt rfl (fun m4 => ?_) (fun m4 => ?_)
                  · refine jr_ic rfl ?_
                    refine jr_iret rfl rfl (Nat.zero_le _) (Nat.zero_le _) ?_
                    first
                      | exact ⟨rfl, hRel0⟩
                      | (exfalso; omega)
                      | (exfalso; simp (disch := omega) only [Int32.lt_iff_toInt_lt, Int32.le_iff_toInt_le, ← Int32.toInt_inj, Int32.reduceToInt, nI_toInt] at c1 c4 c1RephasMonth c5RephasMonth m5MDhasMonths m4; done)
                      | (exfalso; simp (disch := omega) only [Int32.lt_iff_toInt_lt, Int32.le_iff_toInt_le, ← Int32.toInt_inj, Int32.reduceToInt, nI_toInt] at c1 c4 c1RephasMonth c5RephasMonth m5MDhasMonths m4; omega)
                  · refine jr_iload rfl rfl ?_
                    refine jr_ic rfl ?_
                    refine jr_icmp_gt rfl (fun m7 => ?_) (fun m7 => ?_)
                    · refine jr_ic rfl ?_
                      refine jr_iret rfl rfl (Nat.zero_le _) (Nat.zero_le _) ?_
                      first
                        | exact ⟨rfl, hRel0⟩
                        | (exfalso; omega)
                        | (exfalso; simp (disch := omega) only [Int32.lt_iff_toInt_lt, Int32.le_iff_toInt_le, ← Int32.toInt_inj, Int32.reduceToInt, nI_toInt] at c1 c4 c1RephasMonth c5RephasMonth m5MDhasMonths m4 m7; done)
                        | (exfalso; simp (disch := omega) only [Int32.lt_iff_toInt_lt, Int32.le_iff_toInt_le, ← Int32.toInt_inj, Int32.reduceToInt, nI_toInt] at c1 c4 c1RephasMonth c5RephasMonth m5MDhasMonths m4 m7; omega)
                    · refine jr_iload rfl rfl ?_
                      refine jr_ic rfl ?_
                      refine jr_aload rfl rfl ?_
                      refine jr_getR rfl rfl rfl rfl (Or.inl rfl) ?_
                      refine jr_aload rfl rfl ?_
                      refine jr_getI rfl rfl ?_
                      refine jr_iald (len := 2) rfl rfl hw.1 (by omega) ?_
                      refine jr_ic rfl ?_
                      refine jr_isub rfl ?_
                      refine jr_cs3 (mc' := 0) (ms' := 0) rfl jm_MD_isIn_n jm_MD_isIn_f rfl rfl rfl rfl rfl (Nat.zero_le _) (Nat.zero_le _) ?_
                      show jx_W (jm_MD_isIn, _, _, _, _, _, _) _ 0 0 0 [some _, some _, some _] [] _
                      refine jr_iload rfl rfl ?_
                      refine jr_iload rfl rfl ?_
                      refine jr_icmp_lt rfl (fun m2MDisIn => ?_) (fun m2MDisIn => ?_)
                      · refine jr_ic rfl ?_
                        refine jr_zret rfl rfl rfl (Nat.zero_le _) (Nat.zero_le _) ?_
                        refine jr_if_ne rfl (fun z => absurd (by decide) z) (fun _ => ?_)
                        refine jr_ic rfl ?_
                        refine jr_iret rfl rfl (Nat.zero_le _) (Nat.zero_le _) ?_
                        first
                          | exact ⟨rfl, hRel0⟩
                          | (exfalso; omega)
                          | (exfalso; simp (disch := omega) only [Int32.lt_iff_toInt_lt, Int32.le_iff_toInt_le, ← Int32.toInt_inj, Int32.reduceToInt, nI_toInt] at c1 c4 c1RephasMonth c5RephasMonth m5MDhasMonths m4 m7 m2MDisIn; done)
                          | (exfalso; simp (disch := omega) only [Int32.lt_iff_toInt_lt, Int32.le_iff_toInt_le, ← Int32.toInt_inj, Int32.reduceToInt, nI_toInt] at c1 c4 c1RephasMonth c5RephasMonth m5MDhasMonths m4 m7 m2MDisIn; omega)
                      · refine jr_iload rfl rfl ?_
                        refine jr_iload rfl rfl ?_
                        refine jr_icmp_gt rfl (fun m5MDisIn => ?_) (fun m5MDisIn => ?_)
                        · refine jr_ic rfl ?_
                          refine jr_zret rfl rfl rfl (Nat.zero_le _) (Nat.zero_le _) ?_
                          refine jr_if_ne rfl (fun z => absurd (by decide) z) (fun _ => ?_)
                          refine jr_ic rfl ?_
                          refine jr_iret rfl rfl (Nat.zero_le _) (Nat.zero_le _) ?_
                          first
                            | exact ⟨rfl, hRel0⟩
                            | (exfalso; omega)
                            | (exfalso; simp (disch := omega) only [Int32.lt_iff_toInt_lt, Int32.le_iff_toInt_le, ← Int32.toInt_inj, Int32.reduceToInt, nI_toInt] at c1 c4 c1RephasMonth c5RephasMonth m5MDhasMonths m4 m7 m2MDisIn m5MDisIn; done)
                            | (exfalso; simp (disch := omega) only [Int32.lt_iff_toInt_lt, Int32.le_iff_toInt_le, ← Int32.toInt_inj, Int32.reduceToInt, nI_toInt] at c1 c4 c1RephasMonth c5RephasMonth m5MDhasMonths m4 m7 m2MDisIn m5MDisIn; omega)
                        · refine jr_ic rfl ?_
                          refine jr_goto rfl ?_
                          refine jr_zret rfl rfl rfl (Nat.zero_le _) (Nat.zero_le _) ?_
                          refine jr_if_ne rfl (fun _ => ?_) (fun z => absurd z (by decide))
                          refine jr_iload rfl rfl ?_
                          refine jr_aload rfl rfl ?_
                          refine jr_getR rfl rfl rfl rfl (Or.inl rfl) ?_
                          refine jr_aload rfl rfl ?_
                          refine jr_getI rfl rfl ?_
                          refine jr_iald (len := 2) rfl rfl hw.1 (by omega) ?_
                          refine jr_imul rfl ?_
                          refine jr_iload rfl rfl ?_
                          refine jr_iadd rfl ?_
                          rw [ek2]
                          refine jr_ist4 rfl rfl ?_
                          refine jr_iload rfl rfl ?_
                          refine jr_aload rfl rfl ?_
                          refine jr_getR rfl rfl rfl rfl (Or.inl rfl) ?_
                          refine jr_ic rfl ?_
                          refine jr_iald (len := 337) rfl rfl (show _ = nI 0 from rfl) (by decide) ?_
                          refine jr_icmp_ge rfl (fun _ => ?_) (fun z => absurd ((show jh_I hm 98 0 0 = nI w from g1) ▸ nI_le hkw (by omega)) z)
                          refine jr_ic rfl ?_
                          refine jr_iret rfl rfl (Nat.zero_le _) (Nat.zero_le _) ?_
                          first
                            | exact ⟨rfl, hRel0⟩
                            | (exfalso; omega)
                            | (exfalso; simp (disch := omega) only [Int32.lt_iff_toInt_lt, Int32.le_iff_toInt_le, ← Int32.toInt_inj, Int32.reduceToInt, nI_toInt] at c1 c4 c1RephasMonth c5RephasMonth m5MDhasMonths m4 m7 m2MDisIn m5MDisIn; done)
                            | (exfalso; simp (disch := omega) only [Int32.lt_iff_toInt_lt, Int32.le_iff_toInt_le, ← Int32.toInt_inj, Int32.reduceToInt, nI_toInt] at c1 c4 c1RephasMonth c5RephasMonth m5MDhasMonths m4 m7 m2MDisIn m5MDisIn; omega)
              · refine jr_ic rfl ?_
                refine jr_goto rfl ?_
                refine jr_zret rfl rfl rfl (Nat.zero_le _) (Nat.zero_le _) ?_
                refine jr_if_ne rfl (fun _ => ?_) (fun z => absurd z (by decide))
                refine jr_iload rfl rfl ?_
                refine jr_aload rfl rfl ?_
                refine jr_getM rfl rfl rfl rfl hto ?_
                refine jr_getI rfl rfl ?_
                refine jr_imul rfl ?_
                refine jr_iload rfl rfl ?_
                refine jr_iadd rfl ?_
                rw [ek]
                refine jr_ist4 rfl rfl ?_
                refine jr_aload rfl rfl ?_
                refine jr_getR rfl rfl rfl rfl (Or.inl rfl) ?_
                refine jr_iload rfl rfl ?_
                refine jr_cv1 (mc' := 0) (ms' := 0) rfl jm_Cal_hadMonth_n jm_Cal_hadMonth_f rfl rfl rfl rfl rfl rfl rfl (Nat.zero_le _) (Nat.zero_le _) ?_
                show jx_W (jm_Cal_hadMonth, _, _, _, _, _, _) _ 0 0 0 [some _, some _] [] _
                refine jr_iload rfl rfl ?_
                refine jr_if_lt rfl (fun z => absurd z (nI_pos (by omega))) (fun _ => ?_)
                refine jr_iload rfl rfl ?_
                refine jr_aload rfl rfl ?_
                refine jr_getI rfl rfl ?_
                refine jr_icmp_ge rfl (fun _ => ?_) (fun z => absurd ((show jh_I hc 1 0 2 = nI w from hA.2.1.trans g1) ▸ nI_le hkw (by omega)) z)
                refine jr_ic rfl ?_
                refine jr_zret rfl rfl rfl (Nat.zero_le _) (Nat.zero_le _) ?_
                refine jr_if_eq rfl (fun _ => ?_) (fun z => absurd (by decide) z)
                refine jr_ic rfl ?_
                refine jr_iret rfl rfl (Nat.zero_le _) (Nat.zero_le _) ?_
                show jx_W (jm_MD_number, d + 40, 0, 0, false, 1, _) _ 0 0 0 [some _, some _, some _, some _, none, none, none] [] _
                refine jr_aload rfl rfl ?_
                refine jr_cv0 (mc' := 0) (ms' := 0) rfl jm_MD_hasMonths_n jm_MD_hasMonths_f rfl rfl rfl rfl rfl rfl rfl (Nat.zero_le _) (Nat.zero_le _) ?_
                show jx_W (jm_MD_hasMonths, _, _, _, _, _, _) _ 0 0 0 [some _] [] _
                refine jr_aload rfl rfl ?_
                refine jr_getR rfl rfl rfl rfl (Or.inl rfl) ?_
                refine jr_aload rfl rfl ?_
                refine jr_getI rfl rfl ?_
                refine jr_iald (len := 2) rfl rfl hw.1 (by omega) ?_
                refine jr_if_le rfl (fun m5MDhasMonths => ?_) (fun m5MDhasMonths => ?_)
                · refine jr_ic rfl ?_
                  refine jr_zret rfl rfl rfl (Nat.zero_le _) (Nat.zero_le _) ?_
                  refine jr_if_eq rfl (fun _ => ?_) (fun z => absurd (by decide) z)
                  refine jr_ic rfl ?_
                  refine jr_iret rfl rfl (Nat.zero_le _) (Nat.zero_le _) ?_
                  first
                    | exact ⟨rfl, hRel0⟩
                    | (exfalso; omega)
                    | (exfalso; simp (disch := omega) only [Int32.lt_iff_toInt_lt, Int32.le_iff_toInt_le, ← Int32.toInt_inj, Int32.reduceToInt, nI_toInt] at c1 c4 c1RephasMonth c5RephasMonth m5MDhasMonths; done)
                    | (exfalso; simp (disch := omega) only [Int32.lt_iff_toInt_lt, Int32.le_iff_toInt_le, ← Int32.toInt_inj, Int32.reduceToInt, nI_toInt] at c1 c4 c1RephasMonth c5RephasMonth m5MDhasMonths; omega)
                · refine jr_ic rfl ?_
                  refine jr_goto rfl ?_
                  refine jr_zret rfl rfl rfl (Nat.zero_le _) (Nat.zero_le _) ?_
                  refine jr_if_eq rfl (fun z => absurd z (by decide)) (fun _ => ?_)
                  refine jr_iload rfl rfl ?_
                  refine jr_if_lt rfl (fun m4 => ?_) (fun m4 => ?_)
                  · refine jr_ic rfl ?_
                    refine jr_iret rfl rfl (Nat.zero_le _) (Nat.zero_le _) ?_
                    first
                      | exact ⟨rfl, hRel0⟩
                      | (exfalso; omega)
                      | (exfalso; simp (disch := omega) only [Int32.lt_iff_toInt_lt, Int32.le_iff_toInt_le, ← Int32.toInt_inj, Int32.reduceToInt, nI_toInt] at c1 c4 c1RephasMonth c5RephasMonth m5MDhasMonths m4; done)
                      | (exfalso; simp (disch := omega) only [Int32.lt_iff_toInt_lt, Int32.le_iff_toInt_le, ← Int32.toInt_inj, Int32.reduceToInt, nI_toInt] at c1 c4 c1RephasMonth c5RephasMonth m5MDhasMonths m4; omega)
                  · refine jr_iload rfl rfl ?_
                    refine jr_ic rfl ?_
                    refine jr_icmp_gt rfl (fun m7 => ?_) (fun m7 => ?_)
                    · refine jr_ic rfl ?_
                      refine jr_iret rfl rfl (Nat.zero_le _) (Nat.zero_le _) ?_
                      first
                        | exact ⟨rfl, hRel0⟩
                        | (exfalso; omega)
                        | (exfalso; simp (disch := omega) only [Int32.lt_iff_toInt_lt, Int32.le_iff_toInt_le, ← Int32.toInt_inj, Int32.reduceToInt, nI_toInt] at c1 c4 c1RephasMonth c5RephasMonth m5MDhasMonths m4 m7; done)
                        | (exfalso; simp (disch := omega) only [Int32.lt_iff_toInt_lt, Int32.le_iff_toInt_le, ← Int32.toInt_inj, Int32.reduceToInt, nI_toInt] at c1 c4 c1RephasMonth c5RephasMonth m5MDhasMonths m4 m7; omega)
                    · refine jr_iload rfl rfl ?_
                      refine jr_ic rfl ?_
                      refine jr_aload rfl rfl ?_
                      refine jr_getR rfl rfl rfl rfl (Or.inl rfl) ?_
                      refine jr_aload rfl rfl ?_
                      refine jr_getI rfl rfl ?_
                      refine jr_iald (len := 2) rfl rfl hw.1 (by omega) ?_
                      refine jr_ic rfl ?_
                      refine jr_isub rfl ?_
                      refine jr_cs3 (mc' := 0) (ms' := 0) rfl jm_MD_isIn_n jm_MD_isIn_f rfl rfl rfl rfl rfl (Nat.zero_le _) (Nat.zero_le _) ?_
                      show jx_W (jm_MD_isIn, _, _, _, _, _, _) _ 0 0 0 [some _, some _, some _] [] _
                      refine jr_iload rfl rfl ?_
                      refine jr_iload rfl rfl ?_
                      refine jr_icmp_lt rfl (fun m2MDisIn => ?_) (fun m2MDisIn => ?_)
                      · refine jr_ic rfl ?_
                        refine jr_zret rfl rfl rfl (Nat.zero_le _) (Nat.zero_le _) ?_
                        refine jr_if_ne rfl (fun z => absurd (by decide) z) (fun _ => ?_)
                        refine jr_ic rfl ?_
                        refine jr_iret rfl rfl (Nat.zero_le _) (Nat.zero_le _) ?_
                        first
                          | exact ⟨rfl, hRel0⟩
                          | (exfalso; omega)
                          | (exfalso; simp (disch := omega) only [Int32.lt_iff_toInt_lt, Int32.le_iff_toInt_le, ← Int32.toInt_inj, Int32.reduceToInt, nI_toInt] at c1 c4 c1RephasMonth c5RephasMonth m5MDhasMonths m4 m7 m2MDisIn; done)
                          | (exfalso; simp (disch := omega) only [Int32.lt_iff_toInt_lt, Int32.le_iff_toInt_le, ← Int32.toInt_inj, Int32.reduceToInt, nI_toInt] at c1 c4 c1RephasMonth c5RephasMonth m5MDhasMonths m4 m7 m2MDisIn; omega)
                      · refine jr_iload rfl rfl ?_
                        refine jr_iload rfl rfl ?_
                        refine jr_icmp_gt rfl (fun m5MDisIn => ?_) (fun m5MDisIn => ?_)
                        · refine jr_ic rfl ?_
                          refine jr_zret rfl rfl rfl (Nat.zero_le _) (Nat.zero_le _) ?_
                          refine jr_if_ne rfl (fun z => absurd (by decide) z) (fun _ => ?_)
                          refine jr_ic rfl ?_
                          refine jr_iret rfl rfl (Nat.zero_le _) (Nat.zero_le _) ?_
                          first
                            | exact ⟨rfl, hRel0⟩
                            | (exfalso; omega)
                            | (exfalso; simp (disch := omega) only [Int32.lt_iff_toInt_lt, Int32.le_iff_toInt_le, ← Int32.toInt_inj, Int32.reduceToInt, nI_toInt] at c1 c4 c1RephasMonth c5RephasMonth m5MDhasMonths m4 m7 m2MDisIn m5MDisIn; done)
                            | (exfalso; simp (disch := omega) only [Int32.lt_iff_toInt_lt, Int32.le_iff_toInt_le, ← Int32.toInt_inj, Int32.reduceToInt, nI_toInt] at c1 c4 c1RephasMonth c5RephasMonth m5MDhasMonths m4 m7 m2MDisIn m5MDisIn; omega)
                        · refine jr_ic rfl ?_
                          refine jr_goto rfl ?_
                          refine jr_zret rfl rfl rfl (Nat.zero_le _) (Nat.zero_le _) ?_
                          refine jr_if_ne rfl (fun _ => ?_) (fun z => absurd z (by decide))
                          refine jr_iload rfl rfl ?_
                          refine jr_aload rfl rfl ?_
                          refine jr_getR rfl rfl rfl rfl (Or.inl rfl) ?_
                          refine jr_aload rfl rfl ?_
                          refine jr_getI rfl rfl ?_
                          refine jr_iald (len := 2) rfl rfl hw.1 (by omega) ?_
                          refine jr_imul rfl ?_
                          refine jr_iload rfl rfl ?_
                          refine jr_iadd rfl ?_
                          rw [ek2]
                          refine jr_ist4 rfl rfl ?_
                          refine jr_iload rfl rfl ?_
                          refine jr_aload rfl rfl ?_
                          refine jr_getR rfl rfl rfl rfl (Or.inl rfl) ?_
                          refine jr_ic rfl ?_
                          refine jr_iald (len := 337) rfl rfl (show _ = nI 0 from rfl) (by decide) ?_
                          refine jr_icmp_ge rfl (fun _ => ?_) (fun z => absurd ((show jh_I hm 98 0 0 = nI w from g1) ▸ nI_le hkw (by omega)) z)
                          refine jr_ic rfl ?_
                          refine jr_iret rfl rfl (Nat.zero_le _) (Nat.zero_le _) ?_
                          first
                            | exact ⟨rfl, hRel0⟩
                            | (exfalso; omega)
                            | (exfalso; simp (disch := omega) only [Int32.lt_iff_toInt_lt, Int32.le_iff_toInt_le, ← Int32.toInt_inj, Int32.reduceToInt, nI_toInt] at c1 c4 c1RephasMonth c5RephasMonth m5MDhasMonths m4 m7 m2MDisIn m5MDisIn; done)
                            | (exfalso; simp (disch := omega) only [Int32.lt_iff_toInt_lt, Int32.le_iff_toInt_le, ← Int32.toInt_inj, Int32.reduceToInt, nI_toInt] at c1 c4 c1RephasMonth c5RephasMonth m5MDhasMonths m4 m7 m2MDisIn m5MDisIn; omega)
    · show jx_W (jm_JV_number, d + 40, 0, 0, false, 0, _) _ 0 0 0 [some (jv_r 10 0), some (jv_i (nI y)), some (jv_i u), some (jv_i z), none] [] _
      refine jr_iload rfl rfl ?_
      refine jr_if_lt rfl (fun c1 => ?_) (fun c1 => ?_)
      · refine jr_ic rfl ?_
        refine jr_iret rfl rfl (Nat.zero_le _) (Nat.zero_le _) ?_
        show jx_W (jm_MD_number, d + 40, 0, 0, false, 1, _) _ 0 0 0 [some _, some _, some _, some _, none, none, none] [] _
        refine jr_aload rfl rfl ?_
        refine jr_cv0 (mc' := 0) (ms' := 0) rfl jm_MD_hasMonths_n jm_MD_hasMonths_f rfl rfl rfl rfl rfl rfl rfl (Nat.zero_le _) (Nat.zero_le _) ?_
        show jx_W (jm_MD_hasMonths, _, _, _, _, _, _) _ 0 0 0 [some _] [] _
        refine jr_aload rfl rfl ?_
        refine jr_getR rfl rfl rfl rfl (Or.inl rfl) ?_
        refine jr_aload rfl rfl ?_
        refine jr_getI rfl rfl ?_
        refine jr_iald (len := 2) rfl rfl hw.1 (by omega) ?_
        refine jr_if_le rfl (fun m5MDhasMonths => ?_) (fun m5MDhasMonths => ?_)
        · refine jr_ic rfl ?_
          refine jr_zret rfl rfl rfl (Nat.zero_le _) (Nat.zero_le _) ?_
          refine jr_if_eq rfl (fun _ => ?_) (fun z => absurd (by decide) z)
          refine jr_ic rfl ?_
          refine jr_iret rfl rfl (Nat.zero_le _) (Nat.zero_le _) ?_
          first
            | exact ⟨rfl, hRel0⟩
            | (exfalso; omega)
            | (exfalso; simp (disch := omega) only [Int32.lt_iff_toInt_lt, Int32.le_iff_toInt_le, ← Int32.toInt_inj, Int32.reduceToInt, nI_toInt] at c1 m5MDhasMonths; done)
            | (exfalso; simp (disch := omega) only [Int32.lt_iff_toInt_lt, Int32.le_iff_toInt_le, ← Int32.toInt_inj, Int32.reduceToInt, nI_toInt] at c1 m5MDhasMonths; omega)
        · refine jr_ic rfl ?_
          refine jr_goto rfl ?_
          refine jr_zret rfl rfl rfl (Nat.zero_le _) (Nat.zero_le _) ?_
          refine jr_if_eq rfl (fun z => absurd z (by decide)) (fun _ => ?_)
          refine jr_iload rfl rfl ?_
          refine jr_if_lt rfl (fun m4 => ?_) (fun m4 => ?_)
          · refine jr_ic rfl ?_
            refine jr_iret rfl rfl (Nat.zero_le _) (Nat.zero_le _) ?_
            first
              | exact ⟨rfl, hRel0⟩
              | (exfalso; omega)
              | (exfalso; simp (disch := omega) only [Int32.lt_iff_toInt_lt, Int32.le_iff_toInt_le, ← Int32.toInt_inj, Int32.reduceToInt, nI_toInt] at c1 m5MDhasMonths m4; done)
              | (exfalso; simp (disch := omega) only [Int32.lt_iff_toInt_lt, Int32.le_iff_toInt_le, ← Int32.toInt_inj, Int32.reduceToInt, nI_toInt] at c1 m5MDhasMonths m4; omega)
          · refine jr_iload rfl rfl ?_
            refine jr_ic rfl ?_
            refine jr_icmp_gt rfl (fun m7 => ?_) (fun m7 => ?_)
            · refine jr_ic rfl ?_
              refine jr_iret rfl rfl (Nat.zero_le _) (Nat.zero_le _) ?_
              first
                | exact ⟨rfl, hRel0⟩
                | (exfalso; omega)
                | (exfalso; simp (disch := omega) only [Int32.lt_iff_toInt_lt, Int32.le_iff_toInt_le, ← Int32.toInt_inj, Int32.reduceToInt, nI_toInt] at c1 m5MDhasMonths m4 m7; done)
                | (exfalso; simp (disch := omega) only [Int32.lt_iff_toInt_lt, Int32.le_iff_toInt_le, ← Int32.toInt_inj, Int32.reduceToInt, nI_toInt] at c1 m5MDhasMonths m4 m7; omega)
            · refine jr_iload rfl rfl ?_
              refine jr_ic rfl ?_
              refine jr_aload rfl rfl ?_
              refine jr_getR rfl rfl rfl rfl (Or.inl rfl) ?_
              refine jr_aload rfl rfl ?_
              refine jr_getI rfl rfl ?_
              refine jr_iald (len := 2) rfl rfl hw.1 (by omega) ?_
              refine jr_ic rfl ?_
              refine jr_isub rfl ?_
              refine jr_cs3 (mc' := 0) (ms' := 0) rfl jm_MD_isIn_n jm_MD_isIn_f rfl rfl rfl rfl rfl (Nat.zero_le _) (Nat.zero_le _) ?_
              show jx_W (jm_MD_isIn, _, _, _, _, _, _) _ 0 0 0 [some _, some _, some _] [] _
              refine jr_iload rfl rfl ?_
              refine jr_iload rfl rfl ?_
              refine jr_icmp_lt rfl (fun m2MDisIn => ?_) (fun m2MDisIn => ?_)
              · refine jr_ic rfl ?_
                refine jr_zret rfl rfl rfl (Nat.zero_le _) (Nat.zero_le _) ?_
                refine jr_if_ne rfl (fun z => absurd (by decide) z) (fun _ => ?_)
                refine jr_ic rfl ?_
                refine jr_iret rfl rfl (Nat.zero_le _) (Nat.zero_le _) ?_
                first
                  | exact ⟨rfl, hRel0⟩
                  | (exfalso; omega)
                  | (exfalso; simp (disch := omega) only [Int32.lt_iff_toInt_lt, Int32.le_iff_toInt_le, ← Int32.toInt_inj, Int32.reduceToInt, nI_toInt] at c1 m5MDhasMonths m4 m7 m2MDisIn; done)
                  | (exfalso; simp (disch := omega) only [Int32.lt_iff_toInt_lt, Int32.le_iff_toInt_le, ← Int32.toInt_inj, Int32.reduceToInt, nI_toInt] at c1 m5MDhasMonths m4 m7 m2MDisIn; omega)
              · refine jr_iload rfl rfl ?_
                refine jr_iload rfl rfl ?_
                refine jr_icmp_gt rfl (fun m5MDisIn => ?_) (fun m5MDisIn => ?_)
                · refine jr_ic rfl ?_
                  refine jr_zret rfl rfl rfl (Nat.zero_le _) (Nat.zero_le _) ?_
                  refine jr_if_ne rfl (fun z => absurd (by decide) z) (fun _ => ?_)
                  refine jr_ic rfl ?_
                  refine jr_iret rfl rfl (Nat.zero_le _) (Nat.zero_le _) ?_
                  first
                    | exact ⟨rfl, hRel0⟩
                    | (exfalso; omega)
                    | (exfalso; simp (disch := omega) only [Int32.lt_iff_toInt_lt, Int32.le_iff_toInt_le, ← Int32.toInt_inj, Int32.reduceToInt, nI_toInt] at c1 m5MDhasMonths m4 m7 m2MDisIn m5MDisIn; done)
                    | (exfalso; simp (disch := omega) only [Int32.lt_iff_toInt_lt, Int32.le_iff_toInt_le, ← Int32.toInt_inj, Int32.reduceToInt, nI_toInt] at c1 m5MDhasMonths m4 m7 m2MDisIn m5MDisIn; omega)
                · refine jr_ic rfl ?_
                  refine jr_goto rfl ?_
                  refine jr_zret rfl rfl rfl (Nat.zero_le _) (Nat.zero_le _) ?_
                  refine jr_if_ne rfl (fun _ => ?_) (fun z => absurd z (by decide))
                  refine jr_iload rfl rfl ?_
                  refine jr_aload rfl rfl ?_
                  refine jr_getR rfl rfl rfl rfl (Or.inl rfl) ?_
                  refine jr_aload rfl rfl ?_
                  refine jr_getI rfl rfl ?_
                  refine jr_iald (len := 2) rfl rfl hw.1 (by omega) ?_
                  refine jr_imul rfl ?_
                  refine jr_iload rfl rfl ?_
                  refine jr_iadd rfl ?_
                  refine jr_ist4 rfl rfl ?_
                  refine jr_iload rfl rfl ?_
                  refine jr_aload rfl rfl ?_
                  refine jr_getR rfl rfl rfl rfl (Or.inl rfl) ?_
                  refine jr_ic rfl ?_
                  refine jr_iald (len := 337) rfl rfl (show _ = nI 0 from rfl) (by decide) ?_
                  refine jr_icmp_ge rfl (fun m36 => ?_) (fun m36 => ?_)
                  · refine jr_ic rfl ?_
                    refine jr_iret rfl rfl (Nat.zero_le _) (Nat.zero_le _) ?_
                    first
                      | exact ⟨rfl, hRel0⟩
                      | (exfalso; omega)
                      | (exfalso; simp (disch := omega) only [Int32.lt_iff_toInt_lt, Int32.le_iff_toInt_le, ← Int32.toInt_inj, Int32.reduceToInt, nI_toInt] at c1 m5MDhasMonths m4 m7 m2MDisIn m5MDisIn m36; done)
                      | (exfalso; simp (disch := omega) only [Int32.lt_iff_toInt_lt, Int32.le_iff_toInt_le, ← Int32.toInt_inj, Int32.reduceToInt, nI_toInt] at c1 m5MDhasMonths m4 m7 m2MDisIn m5MDisIn m36; omega)
                  · refine jr_iload rfl rfl ?_
                    refine jr_ic rfl ?_
                    refine jr_aload rfl rfl ?_
                    refine jr_getR rfl rfl rfl rfl (Or.inl rfl) ?_
                    refine jr_ic rfl ?_
                    refine jr_iload rfl rfl ?_
                    refine jr_iadd rfl ?_
                    first
                      | (exfalso; omega)
                      | (exfalso; simp (disch := omega) only [Int32.lt_iff_toInt_lt, Int32.le_iff_toInt_le, ← Int32.toInt_inj, Int32.reduceToInt, nI_toInt] at c1 m5MDhasMonths m4 m7 m2MDisIn m5MDisIn m36; done)
                      | (exfalso; simp (disch := omega) only [Int32.lt_iff_toInt_lt, Int32.le_iff_toInt_le, ← Int32.toInt_inj, Int32.reduceToInt, nI_toInt] at c1 m5MDhasMonths m4 m7 m2MDisIn m5MDisIn m36; omega)
      · refine jr_iload rfl rfl ?_
        refine jr_ic rfl ?_
        refine jr_icmp_gt rfl (fun c4 => ?_) (fun c4 => ?_)
        · refine jr_ic rfl ?_
          refine jr_iret rfl rfl (Nat.zero_le _) (Nat.zero_le _) ?_
          show jx_W (jm_MD_number, d + 40, 0, 0, false, 1, _) _ 0 0 0 [some _, some _, some _, some _, none, none, none] [] _
          refine jr_aload rfl rfl ?_
          refine jr_cv0 (mc' := 0) (ms' := 0) rfl jm_MD_hasMonths_n jm_MD_hasMonths_f rfl rfl rfl rfl rfl rfl rfl (Nat.zero_le _) (Nat.zero_le _) ?_
          show jx_W (jm_MD_hasMonths, _, _, _, _, _, _) _ 0 0 0 [some _] [] _
          refine jr_aload rfl rfl ?_
          refine jr_getR rfl rfl rfl rfl (Or.inl rfl) ?_
          refine jr_aload rfl rfl ?_
          refine jr_getI rfl rfl ?_
          refine jr_iald (len := 2) rfl rfl hw.1 (by omega) ?_
          refine jr_if_le rfl (fun m5MDhasMonths => ?_) (fun m5MDhasMonths => ?_)
          · refine jr_ic rfl ?_
            refine jr_zret rfl rfl rfl (Nat.zero_le _) (Nat.zero_le _) ?_
            refine jr_if_eq rfl (fun _ => ?_) (fun z => absurd (by decide) z)
            refine jr_ic rfl ?_
            refine jr_iret rfl rfl (Nat.zero_le _) (Nat.zero_le _) ?_
            first
              | exact ⟨rfl, hRel0⟩
              | (exfalso; omega)
              | (exfalso; simp (disch := omega) only [Int32.lt_iff_toInt_lt, Int32.le_iff_toInt_le, ← Int32.toInt_inj, Int32.reduceToInt, nI_toInt] at c1 c4 m5MDhasMonths; done)
              | (exfalso; simp (disch := omega) only [Int32.lt_iff_toInt_lt, Int32.le_iff_toInt_le, ← Int32.toInt_inj, Int32.reduceToInt, nI_toInt] at c1 c4 m5MDhasMonths; omega)
          · refine jr_ic rfl ?_
            refine jr_goto rfl ?_
            refine jr_zret rfl rfl rfl (Nat.zero_le _) (Nat.zero_le _) ?_
            refine jr_if_eq rfl (fun z => absurd z (by decide)) (fun _ => ?_)
            refine jr_iload rfl rfl ?_
            refine jr_if_lt rfl (fun m4 => ?_) (fun m4 => ?_)
            · refine jr_ic rfl ?_
              refine jr_iret rfl rfl (Nat.zero_le _) (Nat.zero_le _) ?_
              first
                | exact ⟨rfl, hRel0⟩
                | (exfalso; omega)
                | (exfalso; simp (disch := omega) only [Int32.lt_iff_toInt_lt, Int32.le_iff_toInt_le, ← Int32.toInt_inj, Int32.reduceToInt, nI_toInt] at c1 c4 m5MDhasMonths m4; done)
                | (exfalso; simp (disch := omega) only [Int32.lt_iff_toInt_lt, Int32.le_iff_toInt_le, ← Int32.toInt_inj, Int32.reduceToInt, nI_toInt] at c1 c4 m5MDhasMonths m4; omega)
            · refine jr_iload rfl rfl ?_
              refine jr_ic rfl ?_
              refine jr_icmp_gt rfl (fun m7 => ?_) (fun m7 => ?_)
              · refine jr_ic rfl ?_
                refine jr_iret rfl rfl (Nat.zero_le _) (Nat.zero_le _) ?_
                first
                  | exact ⟨rfl, hRel0⟩
                  | (exfalso; omega)
                  | (exfalso; simp (disch := omega) only [Int32.lt_iff_toInt_lt, Int32.le_iff_toInt_le, ← Int32.toInt_inj, Int32.reduceToInt, nI_toInt] at c1 c4 m5MDhasMonths m4 m7; done)
                  | (exfalso; simp (disch := omega) only [Int32.lt_iff_toInt_lt, Int32.le_iff_toInt_le, ← Int32.toInt_inj, Int32.reduceToInt, nI_toInt] at c1 c4 m5MDhasMonths m4 m7; omega)
              · refine jr_iload rfl rfl ?_
                refine jr_ic rfl ?_
                refine jr_aload rfl rfl ?_
                refine jr_getR rfl rfl rfl rfl (Or.inl rfl) ?_
                refine jr_aload rfl rfl ?_
                refine jr_getI rfl rfl ?_
                refine jr_iald (len := 2) rfl rfl hw.1 (by omega) ?_
                refine jr_ic rfl ?_
                refine jr_isub rfl ?_
                refine jr_cs3 (mc' := 0) (ms' := 0) rfl jm_MD_isIn_n jm_MD_isIn_f rfl rfl rfl rfl rfl (Nat.zero_le _) (Nat.zero_le _) ?_
                show jx_W (jm_MD_isIn, _, _, _, _, _, _) _ 0 0 0 [some _, some _, some _] [] _
                refine jr_iload rfl rfl ?_
                refine jr_iload rfl rfl ?_
                refine jr_icmp_lt rfl (fun m2MDisIn => ?_) (fun m2MDisIn => ?_)
                · refine jr_ic rfl ?_
                  refine jr_zret rfl rfl rfl (Nat.zero_le _) (Nat.zero_le _) ?_
                  refine jr_if_ne rfl (fun z => absurd (by decide) z) (fun _ => ?_)
                  refine jr_ic rfl ?_
                  refine jr_iret rfl rfl (Nat.zero_le _) (Nat.zero_le _) ?_
                  first
                    | exact ⟨rfl, hRel0⟩
                    | (exfalso; omega)
                    | (exfalso; simp (disch := omega) only [Int32.lt_iff_toInt_lt, Int32.le_iff_toInt_le, ← Int32.toInt_inj, Int32.reduceToInt, nI_toInt] at c1 c4 m5MDhasMonths m4 m7 m2MDisIn; done)
                    | (exfalso; simp (disch := omega) only [Int32.lt_iff_toInt_lt, Int32.le_iff_toInt_le, ← Int32.toInt_inj, Int32.reduceToInt, nI_toInt] at c1 c4 m5MDhasMonths m4 m7 m2MDisIn; omega)
                · refine jr_iload rfl rfl ?_
                  refine jr_iload rfl rfl ?_
                  refine jr_icmp_gt rfl (fun m5MDisIn => ?_) (fun m5MDisIn => ?_)
                  · refine jr_ic rfl ?_
                    refine jr_zret rfl rfl rfl (Nat.zero_le _) (Nat.zero_le _) ?_
                    refine jr_if_ne rfl (fun z => absurd (by decide) z) (fun _ => ?_)
                    refine jr_ic rfl ?_
                    refine jr_iret rfl rfl (Nat.zero_le _) (Nat.zero_le _) ?_
                    first
                      | exact ⟨rfl, hRel0⟩
                      | (exfalso; omega)
                      | (exfalso; simp (disch := omega) only [Int32.lt_iff_toInt_lt, Int32.le_iff_toInt_le, ← Int32.toInt_inj, Int32.reduceToInt, nI_toInt] at c1 c4 m5MDhasMonths m4 m7 m2MDisIn m5MDisIn; done)
                      | (exfalso; simp (disch := omega) only [Int32.lt_iff_toInt_lt, Int32.le_iff_toInt_le, ← Int32.toInt_inj, Int32.reduceToInt, nI_toInt] at c1 c4 m5MDhasMonths m4 m7 m2MDisIn m5MDisIn; omega)
                  · refine jr_ic rfl ?_
                    refine jr_goto rfl ?_
                    refine jr_zret rfl rfl rfl (Nat.zero_le _) (Nat.zero_le _) ?_
                    refine jr_if_ne rfl (fun _ => ?_) (fun z => absurd z (by decide))
                    refine jr_iload rfl rfl ?_
                    refine jr_aload rfl rfl ?_
                    refine jr_getR rfl rfl rfl rfl (Or.inl rfl) ?_
                    refine jr_aload rfl rfl ?_
                    refine jr_getI rfl rfl ?_
                    refine jr_iald (len := 2) rfl rfl hw.1 (by omega) ?_
                    refine jr_imul rfl ?_
                    refine jr_iload rfl rfl ?_
                    refine jr_iadd rfl ?_
                    refine jr_ist4 rfl rfl ?_
                    refine jr_iload rfl rfl ?_
                    refine jr_aload rfl rfl ?_
                    refine jr_getR rfl rfl rfl rfl (Or.inl rfl) ?_
                    refine jr_ic rfl ?_
                    refine jr_iald (len := 337) rfl rfl (show _ = nI 0 from rfl) (by decide) ?_
                    refine jr_icmp_ge rfl (fun m36 => ?_) (fun m36 => ?_)
                    · refine jr_ic rfl ?_
                      refine jr_iret rfl rfl (Nat.zero_le _) (Nat.zero_le _) ?_
                      first
                        | exact ⟨rfl, hRel0⟩
                        | (exfalso; omega)
                        | (exfalso; simp (disch := omega) only [Int32.lt_iff_toInt_lt, Int32.le_iff_toInt_le, ← Int32.toInt_inj, Int32.reduceToInt, nI_toInt] at c1 c4 m5MDhasMonths m4 m7 m2MDisIn m5MDisIn m36; done)
                        | (exfalso; simp (disch := omega) only [Int32.lt_iff_toInt_lt, Int32.le_iff_toInt_le, ← Int32.toInt_inj, Int32.reduceToInt, nI_toInt] at c1 c4 m5MDhasMonths m4 m7 m2MDisIn m5MDisIn m36; omega)
                    · refine jr_iload rfl rfl ?_
                      refine jr_ic rfl ?_
                      refine jr_aload rfl rfl ?_
                      refine jr_getR rfl rfl rfl rfl (Or.inl rfl) ?_
                      refine jr_ic rfl ?_
                      refine jr_iload rfl rfl ?_
                      refine jr_iadd rfl ?_
                      first
                        | (exfalso; omega)
                        | (exfalso; simp (disch := omega) only [Int32.lt_iff_toInt_lt, Int32.le_iff_toInt_le, ← Int32.toInt_inj, Int32.reduceToInt, nI_toInt] at c1 c4 m5MDhasMonths m4 m7 m2MDisIn m5MDisIn m36; done)
                        | (exfalso; simp (disch := omega) only [Int32.lt_iff_toInt_lt, Int32.le_iff_toInt_le, ← Int32.toInt_inj, Int32.reduceToInt, nI_toInt] at c1 c4 m5MDhasMonths m4 m7 m2MDisIn m5MDisIn m36; omega)
        · refine jr_aload rfl rfl ?_
          refine jr_getM rfl rfl rfl rfl hto ?_
          refine jr_iload rfl rfl ?_
          refine jr_cv1 (mc' := 0) (ms' := 0) rfl jm_Rep_hasMonth_n jm_Rep_hasMonth_f rfl rfl rfl rfl rfl rfl rfl (Nat.zero_le _) (Nat.zero_le _) ?_
          show jx_W (jm_Rep_hasMonth, _, _, _, _, _, _) _ 0 0 0 [some _, some _] [] _
          refine jr_iload rfl rfl ?_
          refine jr_if_lt rfl (fun c1RephasMonth => ?_) (fun c1RephasMonth => ?_)
          · refine jr_ic rfl ?_
            refine jr_zret rfl rfl rfl (Nat.zero_le _) (Nat.zero_le _) ?_
            refine jr_if_ne rfl (fun z => absurd (by decide) z) (fun _ => ?_)
            refine jr_ic rfl ?_
            refine jr_iret rfl rfl (Nat.zero_le _) (Nat.zero_le _) ?_
            show jx_W (jm_MD_number, d + 40, 0, 0, false, 1, _) _ 0 0 0 [some _, some _, some _, some _, none, none, none] [] _
            refine jr_aload rfl rfl ?_
            refine jr_cv0 (mc' := 0) (ms' := 0) rfl jm_MD_hasMonths_n jm_MD_hasMonths_f rfl rfl rfl rfl rfl rfl rfl (Nat.zero_le _) (Nat.zero_le _) ?_
            show jx_W (jm_MD_hasMonths, _, _, _, _, _, _) _ 0 0 0 [some _] [] _
            refine jr_aload rfl rfl ?_
            refine jr_getR rfl rfl rfl rfl (Or.inl rfl) ?_
            refine jr_aload rfl rfl ?_
            refine jr_getI rfl rfl ?_
            refine jr_iald (len := 2) rfl rfl hw.1 (by omega) ?_
            refine jr_if_le rfl (fun m5MDhasMonths => ?_) (fun m5MDhasMonths => ?_)
            · refine jr_ic rfl ?_
              refine jr_zret rfl rfl rfl (Nat.zero_le _) (Nat.zero_le _) ?_
              refine jr_if_eq rfl (fun _ => ?_) (fun z => absurd (by decide) z)
              refine jr_ic rfl ?_
              refine jr_iret rfl rfl (Nat.zero_le _) (Nat.zero_le _) ?_
              first
                | exact ⟨rfl, hRel0⟩
                | (exfalso; omega)
                | (exfalso; simp (disch := omega) only [Int32.lt_iff_toInt_lt, Int32.le_iff_toInt_le, ← Int32.toInt_inj, Int32.reduceToInt, nI_toInt] at c1 c4 c1RephasMonth m5MDhasMonths; done)
                | (exfalso; simp (disch := omega) only [Int32.lt_iff_toInt_lt, Int32.le_iff_toInt_le, ← Int32.toInt_inj, Int32.reduceToInt, nI_toInt] at c1 c4 c1RephasMonth m5MDhasMonths; omega)
            · refine jr_ic rfl ?_
              refine jr_goto rfl ?_
              refine jr_zret rfl rfl rfl (Nat.zero_le _) (Nat.zero_le _) ?_
              refine jr_if_eq rfl (fun z => absurd z (by decide)) (fun _ => ?_)
              refine jr_iload rfl rfl ?_
              refine jr_if_lt rfl (fun m4 => ?_) (fun m4 => ?_)
              · refine jr_ic rfl ?_
                refine jr_iret rfl rfl (Nat.zero_le _) (Nat.zero_le _) ?_
                first
                  | exact ⟨rfl, hRel0⟩
                  | (exfalso; omega)
                  | (exfalso; simp (disch := omega) only [Int32.lt_iff_toInt_lt, Int32.le_iff_toInt_le, ← Int32.toInt_inj, Int32.reduceToInt, nI_toInt] at c1 c4 c1RephasMonth m5MDhasMonths m4; done)
                  | (exfalso; simp (disch := omega) only [Int32.lt_iff_toInt_lt, Int32.le_iff_toInt_le, ← Int32.toInt_inj, Int32.reduceToInt, nI_toInt] at c1 c4 c1RephasMonth m5MDhasMonths m4; omega)
              · refine jr_iload rfl rfl ?_
                refine jr_ic rfl ?_
                refine jr_icmp_gt rfl (fun m7 => ?_) (fun m7 => ?_)
                · refine jr_ic rfl ?_
                  refine jr_iret rfl rfl (Nat.zero_le _) (Nat.zero_le _) ?_
                  first
                    | exact ⟨rfl, hRel0⟩
                    | (exfalso; omega)
                    | (exfalso; simp (disch := omega) only [Int32.lt_iff_toInt_lt, Int32.le_iff_toInt_le, ← Int32.toInt_inj, Int32.reduceToInt, nI_toInt] at c1 c4 c1RephasMonth m5MDhasMonths m4 m7; done)
                    | (exfalso; simp (disch := omega) only [Int32.lt_iff_toInt_lt, Int32.le_iff_toInt_le, ← Int32.toInt_inj, Int32.reduceToInt, nI_toInt] at c1 c4 c1RephasMonth m5MDhasMonths m4 m7; omega)
                · refine jr_iload rfl rfl ?_
                  refine jr_ic rfl ?_
                  refine jr_aload rfl rfl ?_
                  refine jr_getR rfl rfl rfl rfl (Or.inl rfl) ?_
                  refine jr_aload rfl rfl ?_
                  refine jr_getI rfl rfl ?_
                  refine jr_iald (len := 2) rfl rfl hw.1 (by omega) ?_
                  refine jr_ic rfl ?_
                  refine jr_isub rfl ?_
                  refine jr_cs3 (mc' := 0) (ms' := 0) rfl jm_MD_isIn_n jm_MD_isIn_f rfl rfl rfl rfl rfl (Nat.zero_le _) (Nat.zero_le _) ?_
                  show jx_W (jm_MD_isIn, _, _, _, _, _, _) _ 0 0 0 [some _, some _, some _] [] _
                  refine jr_iload rfl rfl ?_
                  refine jr_iload rfl rfl ?_
                  refine jr_icmp_lt rfl (fun m2MDisIn => ?_) (fun m2MDisIn => ?_)
                  · refine jr_ic rfl ?_
                    refine jr_zret rfl rfl rfl (Nat.zero_le _) (Nat.zero_le _) ?_
                    refine jr_if_ne rfl (fun z => absurd (by decide) z) (fun _ => ?_)
                    refine jr_ic rfl ?_
                    refine jr_iret rfl rfl (Nat.zero_le _) (Nat.zero_le _) ?_
                    first
                      | exact ⟨rfl, hRel0⟩
                      | (exfalso; omega)
                      | (exfalso; simp (disch := omega) only [Int32.lt_iff_toInt_lt, Int32.le_iff_toInt_le, ← Int32.toInt_inj, Int32.reduceToInt, nI_toInt] at c1 c4 c1RephasMonth m5MDhasMonths m4 m7 m2MDisIn; done)
                      | (exfalso; simp (disch := omega) only [Int32.lt_iff_toInt_lt, Int32.le_iff_toInt_le, ← Int32.toInt_inj, Int32.reduceToInt, nI_toInt] at c1 c4 c1RephasMonth m5MDhasMonths m4 m7 m2MDisIn; omega)
                  · refine jr_iload rfl rfl ?_
                    refine jr_iload rfl rfl ?_
                    refine jr_icmp_gt rfl (fun m5MDisIn => ?_) (fun m5MDisIn => ?_)
                    · refine jr_ic rfl ?_
                      refine jr_zret rfl rfl rfl (Nat.zero_le _) (Nat.zero_le _) ?_
                      refine jr_if_ne rfl (fun z => absurd (by decide) z) (fun _ => ?_)
                      refine jr_ic rfl ?_
                      refine jr_iret rfl rfl (Nat.zero_le _) (Nat.zero_le _) ?_
                      first
                        | exact ⟨rfl, hRel0⟩
                        | (exfalso; omega)
                        | (exfalso; simp (disch := omega) only [Int32.lt_iff_toInt_lt, Int32.le_iff_toInt_le, ← Int32.toInt_inj, Int32.reduceToInt, nI_toInt] at c1 c4 c1RephasMonth m5MDhasMonths m4 m7 m2MDisIn m5MDisIn; done)
                        | (exfalso; simp (disch := omega) only [Int32.lt_iff_toInt_lt, Int32.le_iff_toInt_le, ← Int32.toInt_inj, Int32.reduceToInt, nI_toInt] at c1 c4 c1RephasMonth m5MDhasMonths m4 m7 m2MDisIn m5MDisIn; omega)
                    · refine jr_ic rfl ?_
                      refine jr_goto rfl ?_
                      refine jr_zret rfl rfl rfl (Nat.zero_le _) (Nat.zero_le _) ?_
                      refine jr_if_ne rfl (fun _ => ?_) (fun z => absurd z (by decide))
                      refine jr_iload rfl rfl ?_
                      refine jr_aload rfl rfl ?_
                      refine jr_getR rfl rfl rfl rfl (Or.inl rfl) ?_
                      refine jr_aload rfl rfl ?_
                      refine jr_getI rfl rfl ?_
                      refine jr_iald (len := 2) rfl rfl hw.1 (by omega) ?_
                      refine jr_imul rfl ?_
                      refine jr_iload rfl rfl ?_
                      refine jr_iadd rfl ?_
                      refine jr_ist4 rfl rfl ?_
                      refine jr_iload rfl rfl ?_
                      refine jr_aload rfl rfl ?_
                      refine jr_getR rfl rfl rfl rfl (Or.inl rfl) ?_
                      refine jr_ic rfl ?_
                      refine jr_iald (len := 337) rfl rfl (show _ = nI 0 from rfl) (by decide) ?_
                      refine jr_icmp_ge rfl (fun m36 => ?_) (fun m36 => ?_)
                      · refine jr_ic rfl ?_
                        refine jr_iret rfl rfl (Nat.zero_le _) (Nat.zero_le _) ?_
                        first
                          | exact ⟨rfl, hRel0⟩
                          | (exfalso; omega)
                          | (exfalso; simp (disch := omega) only [Int32.lt_iff_toInt_lt, Int32.le_iff_toInt_le, ← Int32.toInt_inj, Int32.reduceToInt, nI_toInt] at c1 c4 c1RephasMonth m5MDhasMonths m4 m7 m2MDisIn m5MDisIn m36; done)
                          | (exfalso; simp (disch := omega) only [Int32.lt_iff_toInt_lt, Int32.le_iff_toInt_le, ← Int32.toInt_inj, Int32.reduceToInt, nI_toInt] at c1 c4 c1RephasMonth m5MDhasMonths m4 m7 m2MDisIn m5MDisIn m36; omega)
                      · refine jr_iload rfl rfl ?_
                        refine jr_ic rfl ?_
                        refine jr_aload rfl rfl ?_
                        refine jr_getR rfl rfl rfl rfl (Or.inl rfl) ?_
                        refine jr_ic rfl ?_
                        refine jr_iload rfl rfl ?_
                        refine jr_iadd rfl ?_
                        first
                          | (exfalso; omega)
                          | (exfalso; simp (disch := omega) only [Int32.lt_iff_toInt_lt, Int32.le_iff_toInt_le, ← Int32.toInt_inj, Int32.reduceToInt, nI_toInt] at c1 c4 c1RephasMonth m5MDhasMonths m4 m7 m2MDisIn m5MDisIn m36; done)
                          | (exfalso; simp (disch := omega) only [Int32.lt_iff_toInt_lt, Int32.le_iff_toInt_le, ← Int32.toInt_inj, Int32.reduceToInt, nI_toInt] at c1 c4 c1RephasMonth m5MDhasMonths m4 m7 m2MDisIn m5MDisIn m36; omega)
          · refine jr_iload rfl rfl ?_
            refine jr_aload rfl rfl ?_
            refine jr_getI rfl rfl ?_
            refine jr_icmp_ge rfl (fun c5RephasMonth => ?_) (fun c5RephasMonth => ?_)
            · refine jr_ic rfl ?_
              refine jr_zret rfl rfl rfl (Nat.zero_le _) (Nat.zero_le _) ?_
              refine jr_if_ne rfl (fun z => absurd (by decide) z) (fun _ => ?_)
              refine jr_ic rfl ?_
              refine jr_iret rfl rfl (Nat.zero_le _) (Nat.zero_le _) ?_
              show jx_W (jm_MD_number, d + 40, 0, 0, false, 1, _) _ 0 0 0 [some _, some _, some _, some _, none, none, none] [] _
              refine jr_aload rfl rfl ?_
              refine jr_cv0 (mc' := 0) (ms' := 0) rfl jm_MD_hasMonths_n jm_MD_hasMonths_f rfl rfl rfl rfl rfl rfl rfl (Nat.zero_le _) (Nat.zero_le _) ?_
              show jx_W (jm_MD_hasMonths, _, _, _, _, _, _) _ 0 0 0 [some _] [] _
              refine jr_aload rfl rfl ?_
              refine jr_getR rfl rfl rfl rfl (Or.inl rfl) ?_
              refine jr_aload rfl rfl ?_
              refine jr_getI rfl rfl ?_
              refine jr_iald (len := 2) rfl rfl hw.1 (by omega) ?_
              refine jr_if_le rfl (fun m5MDhasMonths => ?_) (fun m5MDhasMonths => ?_)
              · refine jr_ic rfl ?_
                refine jr_zret rfl rfl rfl (Nat.zero_le _) (Nat.zero_le _) ?_
                refine jr_if_eq rfl (fun _ => ?_) (fun z => absurd (by decide) z)
                refine jr_ic rfl ?_
                refine jr_iret rfl rfl (Nat.zero_le _) (Nat.zero_le _) ?_
                first
                  | exact ⟨rfl, hRel0⟩
                  | (exfalso; omega)
                  | (exfalso; simp (disch := omega) only [Int32.lt_iff_toInt_lt, Int32.le_iff_toInt_le, ← Int32.toInt_inj, Int32.reduceToInt, nI_toInt] at c1 c4 c1RephasMonth c5RephasMonth m5MDhasMonths; done)
                  | (exfalso; simp (disch := omega) only [Int32.lt_iff_toInt_lt, Int32.le_iff_toInt_le, ← Int32.toInt_inj, Int32.reduceToInt, nI_toInt] at c1 c4 c1RephasMonth c5RephasMonth m5MDhasMonths; omega)
              · refine jr_ic rfl ?_
                refine jr_goto rfl ?_
                refine jr_zret rfl rfl rfl (Nat.zero_le _) (Nat.zero_le _) ?_
                refine jr_if_eq rfl (fun z => absurd z (by decide)) (fun _ => ?_)
                refine jr_iload rfl rfl ?_
                refine jr_if_lt rfl (fun m4 => ?_) (fun m4 => ?_)
                · refine jr_ic rfl ?_
                  refine jr_iret rfl rfl (Nat.zero_le _) (Nat.zero_le _) ?_
                  first
                    | exact ⟨rfl, hRel0⟩
                    | (exfalso; omega)
                    | (exfalso; simp (disch := omega) only [Int32.lt_iff_toInt_lt, Int32.le_iff_toInt_le, ← Int32.toInt_inj, Int32.reduceToInt, nI_toInt] at c1 c4 c1RephasMonth c5RephasMonth m5MDhasMonths m4; done)
                    | (exfalso; simp (disch := omega) only [Int32.lt_iff_toInt_lt, Int32.le_iff_toInt_le, ← Int32.toInt_inj, Int32.reduceToInt, nI_toInt] at c1 c4 c1RephasMonth c5RephasMonth m5MDhasMonths m4; omega)
                · refine jr_iload rfl rfl ?_
                  refine jr_ic rfl ?_
                  refine jr_icmp_gt rfl (fun m7 => ?_) (fun m7 => ?_)
                  · refine jr_ic rfl ?_
                    refine jr_iret rfl rfl (Nat.zero_le _) (Nat.zero_le _) ?_
                    first
                      | exact ⟨rfl, hRel0⟩
                      | (exfalso; omega)
                      | (exfalso; simp (disch := omega) only [Int32.lt_iff_toInt_lt, Int32.le_iff_toInt_le, ← Int32.toInt_inj, Int32.reduceToInt, nI_toInt] at c1 c4 c1RephasMonth c5RephasMonth m5MDhasMonths m4 m7; done)
                      | (exfalso; simp (disch := omega) only [Int32.lt_iff_toInt_lt, Int32.le_iff_toInt_le, ← Int32.toInt_inj, Int32.reduceToInt, nI_toInt] at c1 c4 c1RephasMonth c5RephasMonth m5MDhasMonths m4 m7; omega)
                  · refine jr_iload rfl rfl ?_
                    refine jr_ic rfl ?_
                    refine jr_aload rfl rfl ?_
                    refine jr_getR rfl rfl rfl rfl (Or.inl rfl) ?_
                    refine jr_aload rfl rfl ?_
                    refine jr_getI rfl rfl ?_
                    refine jr_iald (len := 2) rfl rfl hw.1 (by omega) ?_
                    refine jr_ic rfl ?_
                    refine jr_isub rfl ?_
                    refine jr_cs3 (mc' := 0) (ms' := 0) rfl jm_MD_isIn_n jm_MD_isIn_f rfl rfl rfl rfl rfl (Nat.zero_le _) (Nat.zero_le _) ?_
                    show jx_W (jm_MD_isIn, _, _, _, _, _, _) _ 0 0 0 [some _, some _, some _] [] _
                    refine jr_iload rfl rfl ?_
                    refine jr_iload rfl rfl ?_
                    refine jr_icmp_lt rfl (fun m2MDisIn => ?_) (fun m2MDisIn => ?_)
                    · refine jr_ic rfl ?_
                      refine jr_zret rfl rfl rfl (Nat.zero_le _) (Nat.zero_le _) ?_
                      refine jr_if_ne rfl (fun z => absurd (by decide) z) (fun _ => ?_)
                      refine jr_ic rfl ?_
                      refine jr_iret rfl rfl (Nat.zero_le _) (Nat.zero_le _) ?_
                      first
                        | exact ⟨rfl, hRel0⟩
                        | (exfalso; omega)
                        | (exfalso; simp (disch := omega) only [Int32.lt_iff_toInt_lt, Int32.le_iff_toInt_le, ← Int32.toInt_inj, Int32.reduceToInt, nI_toInt] at c1 c4 c1RephasMonth c5RephasMonth m5MDhasMonths m4 m7 m2MDisIn; done)
                        | (exfalso; simp (disch := omega) only [Int32.lt_iff_toInt_lt, Int32.le_iff_toInt_le, ← Int32.toInt_inj, Int32.reduceToInt, nI_toInt] at c1 c4 c1RephasMonth c5RephasMonth m5MDhasMonths m4 m7 m2MDisIn; omega)
                    · refine jr_iload rfl rfl ?_
                      refine jr_iload rfl rfl ?_
                      refine jr_icmp_gt rfl (fun m5MDisIn => ?_) (fun m5MDisIn => ?_)
                      · refine jr_ic rfl ?_
                        refine jr_zret rfl rfl rfl (Nat.zero_le _) (Nat.zero_le _) ?_
                        refine jr_if_ne rfl (fun z => absurd (by decide) z) (fun _ => ?_)
                        refine jr_ic rfl ?_
                        refine jr_iret rfl rfl (Nat.zero_le _) (Nat.zero_le _) ?_
                        first
                          | exact ⟨rfl, hRel0⟩
                          | (exfalso; omega)
                          | (exfalso; simp (disch := omega) only [Int32.lt_iff_toInt_lt, Int32.le_iff_toInt_le, ← Int32.toInt_inj, Int32.reduceToInt, nI_toInt] at c1 c4 c1RephasMonth c5RephasMonth m5MDhasMonths m4 m7 m2MDisIn m5MDisIn; done)
                          | (exfalso; simp (disch := omega) only [Int32.lt_iff_toInt_lt, Int32.le_iff_toInt_le, ← Int32.toInt_inj, Int32.reduceToInt, nI_toInt] at c1 c4 c1RephasMonth c5RephasMonth m5MDhasMonths m4 m7 m2MDisIn m5MDisIn; omega)
                      · refine jr_ic rfl ?_
                        refine jr_goto rfl ?_
                        refine jr_zret rfl rfl rfl (Nat.zero_le _) (Nat.zero_le _) ?_
                        refine jr_if_ne rfl (fun _ => ?_) (fun z => absurd z (by decide))
                        refine jr_iload rfl rfl ?_
                        refine jr_aload rfl rfl ?_
                        refine jr_getR rfl rfl rfl rfl (Or.inl rfl) ?_
                        refine jr_aload rfl rfl ?_
                        refine jr_getI rfl rfl ?_
                        refine jr_iald (len := 2) rfl rfl hw.1 (by omega) ?_
                        refine jr_imul rfl ?_
                        refine jr_iload rfl rfl ?_
                        refine jr_iadd rfl ?_
                        refine jr_ist4 rfl rfl ?_
                        refine jr_iload rfl rfl ?_
                        refine jr_aload rfl rfl ?_
                        refine jr_getR rfl rfl rfl rfl (Or.inl rfl) ?_
                        refine jr_ic rfl ?_
                        refine jr_iald (len := 337) rfl rfl (show _ = nI 0 from rfl) (by decide) ?_
                        refine jr_icmp_ge rfl (fun m36 => ?_) (fun m36 => ?_)
                        · refine jr_ic rfl ?_
                          refine jr_iret rfl rfl (Nat.zero_le _) (Nat.zero_le _) ?_
                          first
                            | exact ⟨rfl, hRel0⟩
                            | (exfalso; omega)
                            | (exfalso; simp (disch := omega) only [Int32.lt_iff_toInt_lt, Int32.le_iff_toInt_le, ← Int32.toInt_inj, Int32.reduceToInt, nI_toInt] at c1 c4 c1RephasMonth c5RephasMonth m5MDhasMonths m4 m7 m2MDisIn m5MDisIn m36; done)
                            | (exfalso; simp (disch := omega) only [Int32.lt_iff_toInt_lt, Int32.le_iff_toInt_le, ← Int32.toInt_inj, Int32.reduceToInt, nI_toInt] at c1 c4 c1RephasMonth c5RephasMonth m5MDhasMonths m4 m7 m2MDisIn m5MDisIn m36; omega)
                        · refine jr_iload rfl rfl ?_
                          refine jr_ic rfl ?_
                          refine jr_aload rfl rfl ?_
                          refine jr_getR rfl rfl rfl rfl (Or.inl rfl) ?_
                          refine jr_ic rfl ?_
                          refine jr_iload rfl rfl ?_
                          refine jr_iadd rfl ?_
                          first
                            | (exfalso; omega)
                            | (exfalso; simp (disch := omega) only [Int32.lt_iff_toInt_lt, Int32.le_iff_toInt_le, ← Int32.toInt_inj, Int32.reduceToInt, nI_toInt] at c1 c4 c1RephasMonth c5RephasMonth m5MDhasMonths m4 m7 m2MDisIn m5MDisIn m36; done)
                            | (exfalso; simp (disch := omega) only [Int32.lt_iff_toInt_lt, Int32.le_iff_toInt_le, ← Int32.toInt_inj, Int32.reduceToInt, nI_toInt] at c1 c4 c1RephasMonth c5RephasMonth m5MDhasMonths m4 m7 m2MDisIn m5MDisIn m36; omega)
            · refine jr_ic rfl ?_
              refine jr_goto rfl ?_
              refine jr_zret rfl rfl rfl (Nat.zero_le _) (Nat.zero_le _) ?_
              refine jr_if_ne rfl (fun _ => ?_) (fun z => absurd z (by decide))
              refine jr_iload rfl rfl ?_
              refine jr_aload rfl rfl ?_
              refine jr_getM rfl rfl rfl rfl hto ?_
              refine jr_getI rfl rfl ?_
              refine jr_imul rfl ?_
              refine jr_iload rfl rfl ?_
              refine jr_iadd rfl ?_
              refine jr_ist4 rfl rfl ?_
              refine jr_aload rfl rfl ?_
              refine jr_getR rfl rfl rfl rfl (Or.inl rfl) ?_
              refine jr_iload rfl rfl ?_
              refine jr_cv1 (mc' := 0) (ms' := 0) rfl jm_Cal_hadMonth_n jm_Cal_hadMonth_f rfl rfl rfl rfl rfl rfl rfl (Nat.zero_le _) (Nat.zero_le _) ?_
              show jx_W (jm_Cal_hadMonth, _, _, _, _, _, _) _ 0 0 0 [some _, some _] [] _
              refine jr_iload rfl rfl ?_
              refine jr_if_lt rfl (fun c1CalhadMonth => ?_) (fun c1CalhadMonth => ?_)
              · refine jr_ic rfl ?_
                refine jr_zret rfl rfl rfl (Nat.zero_le _) (Nat.zero_le _) ?_
                refine jr_if_eq rfl (fun _ => ?_) (fun z => absurd (by decide) z)
                refine jr_ic rfl ?_
                refine jr_iret rfl rfl (Nat.zero_le _) (Nat.zero_le _) ?_
                show jx_W (jm_MD_number, d + 40, 0, 0, false, 1, _) _ 0 0 0 [some _, some _, some _, some _, none, none, none] [] _
                refine jr_aload rfl rfl ?_
                refine jr_cv0 (mc' := 0) (ms' := 0) rfl jm_MD_hasMonths_n jm_MD_hasMonths_f rfl rfl rfl rfl rfl rfl rfl (Nat.zero_le _) (Nat.zero_le _) ?_
                show jx_W (jm_MD_hasMonths, _, _, _, _, _, _) _ 0 0 0 [some _] [] _
                refine jr_aload rfl rfl ?_
                refine jr_getR rfl rfl rfl rfl (Or.inl rfl) ?_
                refine jr_aload rfl rfl ?_
                refine jr_getI rfl rfl ?_
                refine jr_iald (len := 2) rfl rfl hw.1 (by omega) ?_
                refine jr_if_le rfl (fun m5MDhasMonths => ?_) (fun m5MDhasMonths => ?_)
                · refine jr_ic rfl ?_
                  refine jr_zret rfl rfl rfl (Nat.zero_le _) (Nat.zero_le _) ?_
                  refine jr_if_eq rfl (fun _ => ?_) (fun z => absurd (by decide) z)
                  refine jr_ic rfl ?_
                  refine jr_iret rfl rfl (Nat.zero_le _) (Nat.zero_le _) ?_
                  first
                    | exact ⟨rfl, hRel0⟩
                    | (exfalso; omega)
                    | (exfalso; simp (disch := omega) only [Int32.lt_iff_toInt_lt, Int32.le_iff_toInt_le, ← Int32.toInt_inj, Int32.reduceToInt, nI_toInt] at c1 c4 c1RephasMonth c5RephasMonth c1CalhadMonth m5MDhasMonths; done)
                    | (exfalso; simp (disch := omega) only [Int32.lt_iff_toInt_lt, Int32.le_iff_toInt_le, ← Int32.toInt_inj, Int32.reduceToInt, nI_toInt] at c1 c4 c1RephasMonth c5RephasMonth c1CalhadMonth m5MDhasMonths; omega)
                · refine jr_ic rfl ?_
                  refine jr_goto rfl ?_
                  refine jr_zret rfl rfl rfl (Nat.zero_le _) (Nat.zero_le _) ?_
                  refine jr_if_eq rfl (fun z => absurd z (by decide)) (fun _ => ?_)
                  refine jr_iload rfl rfl ?_
                  refine jr_if_lt rfl (fun m4 => ?_) (fun m4 => ?_)
                  · refine jr_ic rfl ?_
                    refine jr_iret rfl rfl (Nat.zero_le _) (Nat.zero_le _) ?_
                    first
                      | exact ⟨rfl, hRel0⟩
                      | (exfalso; omega)
                      | (exfalso; simp (disch := omega) only [Int32.lt_iff_toInt_lt, Int32.le_iff_toInt_le, ← Int32.toInt_inj, Int32.reduceToInt, nI_toInt] at c1 c4 c1RephasMonth c5RephasMonth c1CalhadMonth m5MDhasMonths m4; done)
                      | (exfalso; simp (disch := omega) only [Int32.lt_iff_toInt_lt, Int32.le_iff_toInt_le, ← Int32.toInt_inj, Int32.reduceToInt, nI_toInt] at c1 c4 c1RephasMonth c5RephasMonth c1CalhadMonth m5MDhasMonths m4; omega)
                  · refine jr_iload rfl rfl ?_
                    refine jr_ic rfl ?_
                    refine jr_icmp_gt rfl (fun m7 => ?_) (fun m7 => ?_)
                    · refine jr_ic rfl ?_
                      refine jr_iret rfl rfl (Nat.zero_le _) (Nat.zero_le _) ?_
                      first
                        | exact ⟨rfl, hRel0⟩
                        | (exfalso; omega)
                        | (exfalso; simp (disch := omega) only [Int32.lt_iff_toInt_lt, Int32.le_iff_toInt_le, ← Int32.toInt_inj, Int32.reduceToInt, nI_toInt] at c1 c4 c1RephasMonth c5RephasMonth c1CalhadMonth m5MDhasMonths m4 m7; done)
                        | (exfalso; simp (disch := omega) only [Int32.lt_iff_toInt_lt, Int32.le_iff_toInt_le, ← Int32.toInt_inj, Int32.reduceToInt, nI_toInt] at c1 c4 c1RephasMonth c5RephasMonth c1CalhadMonth m5MDhasMonths m4 m7; omega)
                    · refine jr_iload rfl rfl ?_
                      refine jr_ic rfl ?_
                      refine jr_aload rfl rfl ?_
                      refine jr_getR rfl rfl rfl rfl (Or.inl rfl) ?_
                      refine jr_aload rfl rfl ?_
                      refine jr_getI rfl rfl ?_
                      refine jr_iald (len := 2) rfl rfl hw.1 (by omega) ?_
                      refine jr_ic rfl ?_
                      refine jr_isub rfl ?_
                      refine jr_cs3 (mc' := 0) (ms' := 0) rfl jm_MD_isIn_n jm_MD_isIn_f rfl rfl rfl rfl rfl (Nat.zero_le _) (Nat.zero_le _) ?_
                      show jx_W (jm_MD_isIn, _, _, _, _, _, _) _ 0 0 0 [some _, some _, some _] [] _
                      refine jr_iload rfl rfl ?_
                      refine jr_iload rfl rfl ?_
                      refine jr_icmp_lt rfl (fun m2MDisIn => ?_) (fun m2MDisIn => ?_)
                      · refine jr_ic rfl ?_
                        refine jr_zret rfl rfl rfl (Nat.zero_le _) (Nat.zero_le _) ?_
                        refine jr_if_ne rfl (fun z => absurd (by decide) z) (fun _ => ?_)
                        refine jr_ic rfl ?_
                        refine jr_iret rfl rfl (Nat.zero_le _) (Nat.zero_le _) ?_
                        first
                          | exact ⟨rfl, hRel0⟩
                          | (exfalso; omega)
                          | (exfalso; simp (disch := omega) only [Int32.lt_iff_toInt_lt, Int32.le_iff_toInt_le, ← Int32.toInt_inj, Int32.reduceToInt, nI_toInt] at c1 c4 c1RephasMonth c5RephasMonth c1CalhadMonth m5MDhasMonths m4 m7 m2MDisIn; done)
                          | (exfalso; simp (disch := omega) only [Int32.lt_iff_toInt_lt, Int32.le_iff_toInt_le, ← Int32.toInt_inj, Int32.reduceToInt, nI_toInt] at c1 c4 c1RephasMonth c5RephasMonth c1CalhadMonth m5MDhasMonths m4 m7 m2MDisIn; omega)
                      · refine jr_iload rfl rfl ?_
                        refine jr_iload rfl rfl ?_
                        refine jr_icmp_gt rfl (fun m5MDisIn => ?_) (fun m5MDisIn => ?_)
                        · refine jr_ic rfl ?_
                          refine jr_zret rfl rfl rfl (Nat.zero_le _) (Nat.zero_le _) ?_
                          refine jr_if_ne rfl (fun z => absurd (by decide) z) (fun _ => ?_)
                          refine jr_ic rfl ?_
                          refine jr_iret rfl rfl (Nat.zero_le _) (Nat.zero_le _) ?_
                          first
                            | exact ⟨rfl, hRel0⟩
                            | (exfalso; omega)
                            | (exfalso; simp (disch := omega) only [Int32.lt_iff_toInt_lt, Int32.le_iff_toInt_le, ← Int32.toInt_inj, Int32.reduceToInt, nI_toInt] at c1 c4 c1RephasMonth c5RephasMonth c1CalhadMonth m5MDhasMonths m4 m7 m2MDisIn m5MDisIn; done)
                            | (exfalso; simp (disch := omega) only [Int32.lt_iff_toInt_lt, Int32.le_iff_toInt_le, ← Int32.toInt_inj, Int32.reduceToInt, nI_toInt] at c1 c4 c1RephasMonth c5RephasMonth c1CalhadMonth m5MDhasMonths m4 m7 m2MDisIn m5MDisIn; omega)
                        · refine jr_ic rfl ?_
                          refine jr_goto rfl ?_
                          refine jr_zret rfl rfl rfl (Nat.zero_le _) (Nat.zero_le _) ?_
                          refine jr_if_ne rfl (fun _ => ?_) (fun z => absurd z (by decide))
                          refine jr_iload rfl rfl ?_
                          refine jr_aload rfl rfl ?_
                          refine jr_getR rfl rfl rfl rfl (Or.inl rfl) ?_
                          refine jr_aload rfl rfl ?_
                          refine jr_getI rfl rfl ?_
                          refine jr_iald (len := 2) rfl rfl hw.1 (by omega) ?_
                          refine jr_imul rfl ?_
                          refine jr_iload rfl rfl ?_
                          refine jr_iadd rfl ?_
                          refine jr_ist4 rfl rfl ?_
                          refine jr_iload rfl rfl ?_
                          refine jr_aload rfl rfl ?_
                          refine jr_getR rfl rfl rfl rfl (Or.inl rfl) ?_
                          refine jr_ic rfl ?_
                          refine jr_iald (len := 337) rfl rfl (show _ = nI 0 from rfl) (by decide) ?_
                          refine jr_icmp_ge rfl (fun m36 => ?_) (fun m36 => ?_)
                          · refine jr_ic rfl ?_
                            refine jr_iret rfl rfl (Nat.zero_le _) (Nat.zero_le _) ?_
                            first
                              | exact ⟨rfl, hRel0⟩
                              | (exfalso; omega)
                              | (exfalso; simp (disch := omega) only [Int32.lt_iff_toInt_lt, Int32.le_iff_toInt_le, ← Int32.toInt_inj, Int32.reduceToInt, nI_toInt] at c1 c4 c1RephasMonth c5RephasMonth c1CalhadMonth m5MDhasMonths m4 m7 m2MDisIn m5MDisIn m36; done)
                              | (exfalso; simp (disch := omega) only [Int32.lt_iff_toInt_lt, Int32.le_iff_toInt_le, ← Int32.toInt_inj, Int32.reduceToInt, nI_toInt] at c1 c4 c1RephasMonth c5RephasMonth c1CalhadMonth m5MDhasMonths m4 m7 m2MDisIn m5MDisIn m36; omega)
                          · refine jr_iload rfl rfl ?_
                            refine jr_ic rfl ?_
                            refine jr_aload rfl rfl ?_
                            refine jr_getR rfl rfl rfl rfl (Or.inl rfl) ?_
                            refine jr_ic rfl ?_
                            refine jr_iload rfl rfl ?_
                            refine jr_iadd rfl ?_
                            first
                              | (exfalso; omega)
                              | (exfalso; simp (disch := omega) only [Int32.lt_iff_toInt_lt, Int32.le_iff_toInt_le, ← Int32.toInt_inj, Int32.reduceToInt, nI_toInt] at c1 c4 c1RephasMonth c5RephasMonth c1CalhadMonth m5MDhasMonths m4 m7 m2MDisIn m5MDisIn m36; done)
                              | (exfalso; simp (disch := omega) only [Int32.lt_iff_toInt_lt, Int32.le_iff_toInt_le, ← Int32.toInt_inj, Int32.reduceToInt, nI_toInt] at c1 c4 c1RephasMonth c5RephasMonth c1CalhadMonth m5MDhasMonths m4 m7 m2MDisIn m5MDisIn m36; omega)
              · refine jr_iload rfl rfl ?_
                refine jr_aload rfl rfl ?_
                refine jr_getI rfl rfl ?_
                refine jr_icmp_ge rfl (fun c5CalhadMonth => ?_) (fun c5CalhadMonth => ?_)
                · refine jr_ic rfl ?_
                  refine jr_zret rfl rfl rfl (Nat.zero_le _) (Nat.zero_le _) ?_
                  refine jr_if_eq rfl (fun _ => ?_) (fun z => absurd (by decide) z)
                  refine jr_ic rfl ?_
                  refine jr_iret rfl rfl (Nat.zero_le _) (Nat.zero_le _) ?_
                  show jx_W (jm_MD_number, d + 40, 0, 0, false, 1, _) _ 0 0 0 [some _, some _, some _, some _, none, none, none] [] _
                  refine jr_aload rfl rfl ?_
                  refine jr_cv0 (mc' := 0) (ms' := 0) rfl jm_MD_hasMonths_n jm_MD_hasMonths_f rfl rfl rfl rfl rfl rfl rfl (Nat.zero_le _) (Nat.zero_le _) ?_
                  show jx_W (jm_MD_hasMonths, _, _, _, _, _, _) _ 0 0 0 [some _] [] _
                  refine jr_aload rfl rfl ?_
                  refine jr_getR rfl rfl rfl rfl (Or.inl rfl) ?_
                  refine jr_aload rfl rfl ?_
                  refine jr_getI rfl rfl ?_
                  refine jr_iald (len := 2) rfl rfl hw.1 (by omega) ?_
                  refine jr_if_le rfl (fun m5MDhasMonths => ?_) (fun m5MDhasMonths => ?_)
                  · refine jr_ic rfl ?_
                    refine jr_zret rfl rfl rfl (Nat.zero_le _) (Nat.zero_le _) ?_
                    refine jr_if_eq rfl (fun _ => ?_) (fun z => absurd (by decide) z)
                    refine jr_ic rfl ?_
                    refine jr_iret rfl rfl (Nat.zero_le _) (Nat.zero_le _) ?_
                    first
                      | exact ⟨rfl, hRel0⟩
                      | (exfalso; omega)
                      | (exfalso; simp (disch := omega) only [Int32.lt_iff_toInt_lt, Int32.le_iff_toInt_le, ← Int32.toInt_inj, Int32.reduceToInt, nI_toInt] at c1 c4 c1RephasMonth c5RephasMonth c1CalhadMonth c5CalhadMonth m5MDhasMonths; done)
                      | (exfalso; simp (disch := omega) only [Int32.lt_iff_toInt_lt, Int32.le_iff_toInt_le, ← Int32.toInt_inj, Int32.reduceToInt, nI_toInt] at c1 c4 c1RephasMonth c5RephasMonth c1CalhadMonth c5CalhadMonth m5MDhasMonths; omega)
                  · refine jr_ic rfl ?_
                    refine jr_goto rfl ?_
                    refine jr_zret rfl rfl rfl (Nat.zero_le _) (Nat.zero_le _) ?_
                    refine jr_if_eq rfl (fun z => absurd z (by decide)) (fun _ => ?_)
                    refine jr_iload rfl rfl ?_
                    refine jr_if_lt rfl (fun m4 => ?_) (fun m4 => ?_)
                    · refine jr_ic rfl ?_
                      refine jr_iret rfl rfl (Nat.zero_le _) (Nat.zero_le _) ?_
                      first
                        | exact ⟨rfl, hRel0⟩
                        | (exfalso; omega)
                        | (exfalso; simp (disch := omega) only [Int32.lt_iff_toInt_lt, Int32.le_iff_toInt_le, ← Int32.toInt_inj, Int32.reduceToInt, nI_toInt] at c1 c4 c1RephasMonth c5RephasMonth c1CalhadMonth c5CalhadMonth m5MDhasMonths m4; done)
                        | (exfalso; simp (disch := omega) only [Int32.lt_iff_toInt_lt, Int32.le_iff_toInt_le, ← Int32.toInt_inj, Int32.reduceToInt, nI_toInt] at c1 c4 c1RephasMonth c5RephasMonth c1CalhadMonth c5CalhadMonth m5MDhasMonths m4; omega)
                    · refine jr_iload rfl rfl ?_
                      refine jr_ic rfl ?_
                      refine jr_icmp_gt rfl (fun m7 => ?_) (fun m7 => ?_)
                      · refine jr_ic rfl ?_
                        refine jr_iret rfl rfl (Nat.zero_le _) (Nat.zero_le _) ?_
                        first
                          | exact ⟨rfl, hRel0⟩
                          | (exfalso; omega)
                          | (exfalso; simp (disch := omega) only [Int32.lt_iff_toInt_lt, Int32.le_iff_toInt_le, ← Int32.toInt_inj, Int32.reduceToInt, nI_toInt] at c1 c4 c1RephasMonth c5RephasMonth c1CalhadMonth c5CalhadMonth m5MDhasMonths m4 m7; done)
                          | (exfalso; simp (disch := omega) only [Int32.lt_iff_toInt_lt, Int32.le_iff_toInt_le, ← Int32.toInt_inj, Int32.reduceToInt, nI_toInt] at c1 c4 c1RephasMonth c5RephasMonth c1CalhadMonth c5CalhadMonth m5MDhasMonths m4 m7; omega)
                      · refine jr_iload rfl rfl ?_
                        refine jr_ic rfl ?_
                        refine jr_aload rfl rfl ?_
                        refine jr_getR rfl rfl rfl rfl (Or.inl rfl) ?_
                        refine jr_aload rfl rfl ?_
                        refine jr_getI rfl rfl ?_
                        refine jr_iald (len := 2) rfl rfl hw.1 (by omega) ?_
                        refine jr_ic rfl ?_
                        refine jr_isub rfl ?_
                        refine jr_cs3 (mc' := 0) (ms' := 0) rfl jm_MD_isIn_n jm_MD_isIn_f rfl rfl rfl rfl rfl (Nat.zero_le _) (Nat.zero_le _) ?_
                        show jx_W (jm_MD_isIn, _, _, _, _, _, _) _ 0 0 0 [some _, some _, some _] [] _
                        refine jr_iload rfl rfl ?_
                        refine jr_iload rfl rfl ?_
                        refine jr_icmp_lt rfl (fun m2MDisIn => ?_) (fun m2MDisIn => ?_)
                        · refine jr_ic rfl ?_
                          refine jr_zret rfl rfl rfl (Nat.zero_le _) (Nat.zero_le _) ?_
                          refine jr_if_ne rfl (fun z => absurd (by decide) z) (fun _ => ?_)
                          refine jr_ic rfl ?_
                          refine jr_iret rfl rfl (Nat.zero_le _) (Nat.zero_le _) ?_
                          first
                            | exact ⟨rfl, hRel0⟩
                            | (exfalso; omega)
                            | (exfalso; simp (disch := omega) only [Int32.lt_iff_toInt_lt, Int32.le_iff_toInt_le, ← Int32.toInt_inj, Int32.reduceToInt, nI_toInt] at c1 c4 c1RephasMonth c5RephasMonth c1CalhadMonth c5CalhadMonth m5MDhasMonths m4 m7 m2MDisIn; done)
                            | (exfalso; simp (disch := omega) only [Int32.lt_iff_toInt_lt, Int32.le_iff_toInt_le, ← Int32.toInt_inj, Int32.reduceToInt, nI_toInt] at c1 c4 c1RephasMonth c5RephasMonth c1CalhadMonth c5CalhadMonth m5MDhasMonths m4 m7 m2MDisIn; omega)
                        · refine jr_iload rfl rfl ?_
                          refine jr_iload rfl rfl ?_
                          refine jr_icmp_gt rfl (fun m5MDisIn => ?_) (fun m5MDisIn => ?_)
                          · refine jr_ic rfl ?_
                            refine jr_zret rfl rfl rfl (Nat.zero_le _) (Nat.zero_le _) ?_
                            refine jr_if_ne rfl (fun z => absurd (by decide) z) (fun _ => ?_)
                            refine jr_ic rfl ?_
                            refine jr_iret rfl rfl (Nat.zero_le _) (Nat.zero_le _) ?_
                            first
                              | exact ⟨rfl, hRel0⟩
                              | (exfalso; omega)
                              | (exfalso; simp (disch := omega) only [Int32.lt_iff_toInt_lt, Int32.le_iff_toInt_le, ← Int32.toInt_inj, Int32.reduceToInt, nI_toInt] at c1 c4 c1RephasMonth c5RephasMonth c1CalhadMonth c5CalhadMonth m5MDhasMonths m4 m7 m2MDisIn m5MDisIn; done)
                              | (exfalso; simp (disch := omega) only [Int32.lt_iff_toInt_lt, Int32.le_iff_toInt_le, ← Int32.toInt_inj, Int32.reduceToInt, nI_toInt] at c1 c4 c1RephasMonth c5RephasMonth c1CalhadMonth c5CalhadMonth m5MDhasMonths m4 m7 m2MDisIn m5MDisIn; omega)
                          · refine jr_ic rfl ?_
                            refine jr_goto rfl ?_
                            refine jr_zret rfl rfl rfl (Nat.zero_le _) (Nat.zero_le _) ?_
                            refine jr_if_ne rfl (fun _ => ?_) (fun z => absurd z (by decide))
                            refine jr_iload rfl rfl ?_
                            refine jr_aload rfl rfl ?_
                            refine jr_getR rfl rfl rfl rfl (Or.inl rfl) ?_
                            refine jr_aload rfl rfl ?_
                            refine jr_getI rfl rfl ?_
                            refine jr_iald (len := 2) rfl rfl hw.1 (by omega) ?_
                            refine jr_imul rfl ?_
                            refine jr_iload rfl rfl ?_
                            refine jr_iadd rfl ?_
                            refine jr_ist4 rfl rfl ?_
                            refine jr_iload rfl rfl ?_
                            refine jr_aload rfl rfl ?_
                            refine jr_getR rfl rfl rfl rfl (Or.inl rfl) ?_
                            refine jr_ic rfl ?_
                            refine jr_iald (len := 337) rfl rfl (show _ = nI 0 from rfl) (by decide) ?_
                            refine jr_icmp_ge rfl (fun m36 => ?_) (fun m36 => ?_)
                            · refine jr_ic rfl ?_
                              refine jr_iret rfl rfl (Nat.zero_le _) (Nat.zero_le _) ?_
                              first
                                | exact ⟨rfl, hRel0⟩
                                | (exfalso; omega)
                                | (exfalso; simp (disch := omega) only [Int32.lt_iff_toInt_lt, Int32.le_iff_toInt_le, ← Int32.toInt_inj, Int32.reduceToInt, nI_toInt] at c1 c4 c1RephasMonth c5RephasMonth c1CalhadMonth c5CalhadMonth m5MDhasMonths m4 m7 m2MDisIn m5MDisIn m36; done)
                                | (exfalso; simp (disch := omega) only [Int32.lt_iff_toInt_lt, Int32.le_iff_toInt_le, ← Int32.toInt_inj, Int32.reduceToInt, nI_toInt] at c1 c4 c1RephasMonth c5RephasMonth c1CalhadMonth c5CalhadMonth m5MDhasMonths m4 m7 m2MDisIn m5MDisIn m36; omega)
                            · refine jr_iload rfl rfl ?_
                              refine jr_ic rfl ?_
                              refine jr_aload rfl rfl ?_
                              refine jr_getR rfl rfl rfl rfl (Or.inl rfl) ?_
                              refine jr_ic rfl ?_
                              refine jr_iload rfl rfl ?_
                              refine jr_iadd rfl ?_
                              first
                                | (exfalso; omega)
                                | (exfalso; simp (disch := omega) only [Int32.lt_iff_toInt_lt, Int32.le_iff_toInt_le, ← Int32.toInt_inj, Int32.reduceToInt, nI_toInt] at c1 c4 c1RephasMonth c5RephasMonth c1CalhadMonth c5CalhadMonth m5MDhasMonths m4 m7 m2MDisIn m5MDisIn m36; done)
                                | (exfalso; simp (disch := omega) only [Int32.lt_iff_toInt_lt, Int32.le_iff_toInt_le, ← Int32.toInt_inj, Int32.reduceToInt, nI_toInt] at c1 c4 c1RephasMonth c5RephasMonth c1CalhadMonth c5CalhadMonth m5MDhasMonths m4 m7 m2MDisIn m5MDisIn m36; omega)
                · refine jr_iload rfl rfl ?_
                  refine jr_aload rfl rfl ?_
                  refine jr_getR rfl rfl rfl rfl (Or.inl rfl) ?_
                  refine jr_alen (so := 1) (len := 512) rfl rfl rfl rfl ?_
                  refine jr_icmp_ge rfl (fun c10CalhadMonth => ?_) (fun c10CalhadMonth => ?_)
                  · refine jr_ic rfl ?_
                    refine jr_zret rfl rfl rfl (Nat.zero_le _) (Nat.zero_le _) ?_
                    refine jr_if_eq rfl (fun _ => ?_) (fun z => absurd (by decide) z)
                    refine jr_ic rfl ?_
                    refine jr_iret rfl rfl (Nat.zero_le _) (Nat.zero_le _) ?_
                    show jx_W (jm_MD_number, d + 40, 0, 0, false, 1, _) _ 0 0 0 [some _, some _, some _, some _, none, none, none] [] _
                    refine jr_aload rfl rfl ?_
                    refine jr_cv0 (mc' := 0) (ms' := 0) rfl jm_MD_hasMonths_n jm_MD_hasMonths_f rfl rfl rfl rfl rfl rfl rfl (Nat.zero_le _) (Nat.zero_le _) ?_
                    show jx_W (jm_MD_hasMonths, _, _, _, _, _, _) _ 0 0 0 [some _] [] _
                    refine jr_aload rfl rfl ?_
                    refine jr_getR rfl rfl rfl rfl (Or.inl rfl) ?_
                    refine jr_aload rfl rfl ?_
                    refine jr_getI rfl rfl ?_
                    refine jr_iald (len := 2) rfl rfl hw.1 (by omega) ?_
                    refine jr_if_le rfl (fun m5MDhasMonths => ?_) (fun m5MDhasMonths => ?_)
                    · refine jr_ic rfl ?_
                      refine jr_zret rfl rfl rfl (Nat.zero_le _) (Nat.zero_le _) ?_
                      refine jr_if_eq rfl (fun _ => ?_) (fun z => absurd (by decide) z)
                      refine jr_ic rfl ?_
                      refine jr_iret rfl rfl (Nat.zero_le _) (Nat.zero_le _) ?_
                      first
                        | exact ⟨rfl, hRel0⟩
                        | (exfalso; omega)
                        | (exfalso; simp (disch := omega) only [Int32.lt_iff_toInt_lt, Int32.le_iff_toInt_le, ← Int32.toInt_inj, Int32.reduceToInt, nI_toInt] at c1 c4 c1RephasMonth c5RephasMonth c1CalhadMonth c5CalhadMonth c10CalhadMonth m5MDhasMonths; done)
                        | (exfalso; simp (disch := omega) only [Int32.lt_iff_toInt_lt, Int32.le_iff_toInt_le, ← Int32.toInt_inj, Int32.reduceToInt, nI_toInt] at c1 c4 c1RephasMonth c5RephasMonth c1CalhadMonth c5CalhadMonth c10CalhadMonth m5MDhasMonths; omega)
                    · refine jr_ic rfl ?_
                      refine jr_goto rfl ?_
                      refine jr_zret rfl rfl rfl (Nat.zero_le _) (Nat.zero_le _) ?_
                      refine jr_if_eq rfl (fun z => absurd z (by decide)) (fun _ => ?_)
                      refine jr_iload rfl rfl ?_
                      refine jr_if_lt rfl (fun m4 => ?_) (fun m4 => ?_)
                      · refine jr_ic rfl ?_
                        refine jr_iret rfl rfl (Nat.zero_le _) (Nat.zero_le _) ?_
                        first
                          | exact ⟨rfl, hRel0⟩
                          | (exfalso; omega)
                          | (exfalso; simp (disch := omega) only [Int32.lt_iff_toInt_lt, Int32.le_iff_toInt_le, ← Int32.toInt_inj, Int32.reduceToInt, nI_toInt] at c1 c4 c1RephasMonth c5RephasMonth c1CalhadMonth c5CalhadMonth c10CalhadMonth m5MDhasMonths m4; done)
                          | (exfalso; simp (disch := omega) only [Int32.lt_iff_toInt_lt, Int32.le_iff_toInt_le, ← Int32.toInt_inj, Int32.reduceToInt, nI_toInt] at c1 c4 c1RephasMonth c5RephasMonth c1CalhadMonth c5CalhadMonth c10CalhadMonth m5MDhasMonths m4; omega)
                      · refine jr_iload rfl rfl ?_
                        refine jr_ic rfl ?_
                        refine jr_icmp_gt rfl (fun m7 => ?_) (fun m7 => ?_)
                        · refine jr_ic rfl ?_
                          refine jr_iret rfl rfl (Nat.zero_le _) (Nat.zero_le _) ?_
                          first
                            | exact ⟨rfl, hRel0⟩
                            | (exfalso; omega)
                            | (exfalso; simp (disch := omega) only [Int32.lt_iff_toInt_lt, Int32.le_iff_toInt_le, ← Int32.toInt_inj, Int32.reduceToInt, nI_toInt] at c1 c4 c1RephasMonth c5RephasMonth c1CalhadMonth c5CalhadMonth c10CalhadMonth m5MDhasMonths m4 m7; done)
                            | (exfalso; simp (disch := omega) only [Int32.lt_iff_toInt_lt, Int32.le_iff_toInt_le, ← Int32.toInt_inj, Int32.reduceToInt, nI_toInt] at c1 c4 c1RephasMonth c5RephasMonth c1CalhadMonth c5CalhadMonth c10CalhadMonth m5MDhasMonths m4 m7; omega)
                        · refine jr_iload rfl rfl ?_
                          refine jr_ic rfl ?_
                          refine jr_aload rfl rfl ?_
                          refine jr_getR rfl rfl rfl rfl (Or.inl rfl) ?_
                          refine jr_aload rfl rfl ?_
                          refine jr_getI rfl rfl ?_
                          refine jr_iald (len := 2) rfl rfl hw.1 (by omega) ?_
                          refine jr_ic rfl ?_
                          refine jr_isub rfl ?_
                          refine jr_cs3 (mc' := 0) (ms' := 0) rfl jm_MD_isIn_n jm_MD_isIn_f rfl rfl rfl rfl rfl (Nat.zero_le _) (Nat.zero_le _) ?_
                          show jx_W (jm_MD_isIn, _, _, _, _, _, _) _ 0 0 0 [some _, some _, some _] [] _
                          refine jr_iload rfl rfl ?_
                          refine jr_iload rfl rfl ?_
                          refine jr_icmp_lt rfl (fun m2MDisIn => ?_) (fun m2MDisIn => ?_)
                          · refine jr_ic rfl ?_
                            refine jr_zret rfl rfl rfl (Nat.zero_le _) (Nat.zero_le _) ?_
                            refine jr_if_ne rfl (fun z => absurd (by decide) z) (fun _ => ?_)
                            refine jr_ic rfl ?_
                            refine jr_iret rfl rfl (Nat.zero_le _) (Nat.zero_le _) ?_
                            first
                              | exact ⟨rfl, hRel0⟩
                              | (exfalso; omega)
                              | (exfalso; simp (disch := omega) only [Int32.lt_iff_toInt_lt, Int32.le_iff_toInt_le, ← Int32.toInt_inj, Int32.reduceToInt, nI_toInt] at c1 c4 c1RephasMonth c5RephasMonth c1CalhadMonth c5CalhadMonth c10CalhadMonth m5MDhasMonths m4 m7 m2MDisIn; done)
                              | (exfalso; simp (disch := omega) only [Int32.lt_iff_toInt_lt, Int32.le_iff_toInt_le, ← Int32.toInt_inj, Int32.reduceToInt, nI_toInt] at c1 c4 c1RephasMonth c5RephasMonth c1CalhadMonth c5CalhadMonth c10CalhadMonth m5MDhasMonths m4 m7 m2MDisIn; omega)
                          · refine jr_iload rfl rfl ?_
                            refine jr_iload rfl rfl ?_
                            refine jr_icmp_gt rfl (fun m5MDisIn => ?_) (fun m5MDisIn => ?_)
                            · refine jr_ic rfl ?_
                              refine jr_zret rfl rfl rfl (Nat.zero_le _) (Nat.zero_le _) ?_
                              refine jr_if_ne rfl (fun z => absurd (by decide) z) (fun _ => ?_)
                              refine jr_ic rfl ?_
                              refine jr_iret rfl rfl (Nat.zero_le _) (Nat.zero_le _) ?_
                              first
                                | exact ⟨rfl, hRel0⟩
                                | (exfalso; omega)
                                | (exfalso; simp (disch := omega) only [Int32.lt_iff_toInt_lt, Int32.le_iff_toInt_le, ← Int32.toInt_inj, Int32.reduceToInt, nI_toInt] at c1 c4 c1RephasMonth c5RephasMonth c1CalhadMonth c5CalhadMonth c10CalhadMonth m5MDhasMonths m4 m7 m2MDisIn m5MDisIn; done)
                                | (exfalso; simp (disch := omega) only [Int32.lt_iff_toInt_lt, Int32.le_iff_toInt_le, ← Int32.toInt_inj, Int32.reduceToInt, nI_toInt] at c1 c4 c1RephasMonth c5RephasMonth c1CalhadMonth c5CalhadMonth c10CalhadMonth m5MDhasMonths m4 m7 m2MDisIn m5MDisIn; omega)
                            · refine jr_ic rfl ?_
                              refine jr_goto rfl ?_
                              refine jr_zret rfl rfl rfl (Nat.zero_le _) (Nat.zero_le _) ?_
                              refine jr_if_ne rfl (fun _ => ?_) (fun z => absurd z (by decide))
                              refine jr_iload rfl rfl ?_
                              refine jr_aload rfl rfl ?_
                              refine jr_getR rfl rfl rfl rfl (Or.inl rfl) ?_
                              refine jr_aload rfl rfl ?_
                              refine jr_getI rfl rfl ?_
                              refine jr_iald (len := 2) rfl rfl hw.1 (by omega) ?_
                              refine jr_imul rfl ?_
                              refine jr_iload rfl rfl ?_
                              refine jr_iadd rfl ?_
                              refine jr_ist4 rfl rfl ?_
                              refine jr_iload rfl rfl ?_
                              refine jr_aload rfl rfl ?_
                              refine jr_getR rfl rfl rfl rfl (Or.inl rfl) ?_
                              refine jr_ic rfl ?_
                              refine jr_iald (len := 337) rfl rfl (show _ = nI 0 from rfl) (by decide) ?_
                              refine jr_icmp_ge rfl (fun m36 => ?_) (fun m36 => ?_)
                              · refine jr_ic rfl ?_
                                refine jr_iret rfl rfl (Nat.zero_le _) (Nat.zero_le _) ?_
                                first
                                  | exact ⟨rfl, hRel0⟩
                                  | (exfalso; omega)
                                  | (exfalso; simp (disch := omega) only [Int32.lt_iff_toInt_lt, Int32.le_iff_toInt_le, ← Int32.toInt_inj, Int32.reduceToInt, nI_toInt] at c1 c4 c1RephasMonth c5RephasMonth c1CalhadMonth c5CalhadMonth c10CalhadMonth m5MDhasMonths m4 m7 m2MDisIn m5MDisIn m36; done)
                                  | (exfalso; simp (disch := omega) only [Int32.lt_iff_toInt_lt, Int32.le_iff_toInt_le, ← Int32.toInt_inj, Int32.reduceToInt, nI_toInt] at c1 c4 c1RephasMonth c5RephasMonth c1CalhadMonth c5CalhadMonth c10CalhadMonth m5MDhasMonths m4 m7 m2MDisIn m5MDisIn m36; omega)
                              · refine jr_iload rfl rfl ?_
                                refine jr_ic rfl ?_
                                refine jr_aload rfl rfl ?_
                                refine jr_getR rfl rfl rfl rfl (Or.inl rfl) ?_
                                refine jr_ic rfl ?_
                                refine jr_iload rfl rfl ?_
                                refine jr_iadd rfl ?_
                                first
                                  | (exfalso; omega)
                                  | (exfalso; simp (disch := omega) only [Int32.lt_iff_toInt_lt, Int32.le_iff_toInt_le, ← Int32.toInt_inj, Int32.reduceToInt, nI_toInt] at c1 c4 c1RephasMonth c5RephasMonth c1CalhadMonth c5CalhadMonth c10CalhadMonth m5MDhasMonths m4 m7 m2MDisIn m5MDisIn m36; done)
                                  | (exfalso; simp (disch := omega) only [Int32.lt_iff_toInt_lt, Int32.le_iff_toInt_le, ← Int32.toInt_inj, Int32.reduceToInt, nI_toInt] at c1 c4 c1RephasMonth c5RephasMonth c1CalhadMonth c5CalhadMonth c10CalhadMonth m5MDhasMonths m4 m7 m2MDisIn m5MDisIn m36; omega)
                  · refine jr_ic rfl ?_
                    refine jr_goto rfl ?_
                    refine jr_zret rfl rfl rfl (Nat.zero_le _) (Nat.zero_le _) ?_
                    refine jr_if_eq rfl (fun z => absurd z (by decide)) (fun _ => ?_)
                    refine jr_iload rfl rfl ?_
                    refine jr_ic rfl ?_
                    refine jr_icmp_lt rfl (fun c27 => ?_) (fun c27 => ?_)
                    · refine jr_ic rfl ?_
                      refine jr_iret rfl rfl (Nat.zero_le _) (Nat.zero_le _) ?_
                      show jx_W (jm_MD_number, d + 40, 0, 0, false, 1, _) _ 0 0 0 [some _, some _, some _, some _, none, none, none] [] _
                      refine jr_aload rfl rfl ?_
                      refine jr_cv0 (mc' := 0) (ms' := 0) rfl jm_MD_hasMonths_n jm_MD_hasMonths_f rfl rfl rfl rfl rfl rfl rfl (Nat.zero_le _) (Nat.zero_le _) ?_
                      show jx_W (jm_MD_hasMonths, _, _, _, _, _, _) _ 0 0 0 [some _] [] _
                      refine jr_aload rfl rfl ?_
                      refine jr_getR rfl rfl rfl rfl (Or.inl rfl) ?_
                      refine jr_aload rfl rfl ?_
                      refine jr_getI rfl rfl ?_
                      refine jr_iald (len := 2) rfl rfl hw.1 (by omega) ?_
                      refine jr_if_le rfl (fun m5MDhasMonths => ?_) (fun m5MDhasMonths => ?_)
                      · refine jr_ic rfl ?_
                        refine jr_zret rfl rfl rfl (Nat.zero_le _) (Nat.zero_le _) ?_
                        refine jr_if_eq rfl (fun _ => ?_) (fun z => absurd (by decide) z)
                        refine jr_ic rfl ?_
                        refine jr_iret rfl rfl (Nat.zero_le _) (Nat.zero_le _) ?_
                        first
                          | exact ⟨rfl, hRel0⟩
                          | (exfalso; omega)
                          | (exfalso; simp (disch := omega) only [Int32.lt_iff_toInt_lt, Int32.le_iff_toInt_le, ← Int32.toInt_inj, Int32.reduceToInt, nI_toInt] at c1 c4 c1RephasMonth c5RephasMonth c1CalhadMonth c5CalhadMonth c10CalhadMonth c27 m5MDhasMonths; done)
                          | (exfalso; simp (disch := omega) only [Int32.lt_iff_toInt_lt, Int32.le_iff_toInt_le, ← Int32.toInt_inj, Int32.reduceToInt, nI_toInt] at c1 c4 c1RephasMonth c5RephasMonth c1CalhadMonth c5CalhadMonth c10CalhadMonth c27 m5MDhasMonths; omega)
                      · refine jr_ic rfl ?_
                        refine jr_goto rfl ?_
                        refine jr_zret rfl rfl rfl (Nat.zero_le _) (Nat.zero_le _) ?_
                        refine jr_if_eq rfl (fun z => absurd z (by decide)) (fun _ => ?_)
                        refine jr_iload rfl rfl ?_
                        refine jr_if_lt rfl (fun m4 => ?_) (fun m4 => ?_)
                        · refine jr_ic rfl ?_
                          refine jr_iret rfl rfl (Nat.zero_le _) (Nat.zero_le _) ?_
                          first
                            | exact ⟨rfl, hRel0⟩
                            | (exfalso; omega)
                            | (exfalso; simp (disch := omega) only [Int32.lt_iff_toInt_lt, Int32.le_iff_toInt_le, ← Int32.toInt_inj, Int32.reduceToInt, nI_toInt] at c1 c4 c1RephasMonth c5RephasMonth c1CalhadMonth c5CalhadMonth c10CalhadMonth c27 m5MDhasMonths m4; done)
                            | (exfalso; simp (disch := omega) only [Int32.lt_iff_toInt_lt, Int32.le_iff_toInt_le, ← Int32.toInt_inj, Int32.reduceToInt, nI_toInt] at c1 c4 c1RephasMonth c5RephasMonth c1CalhadMonth c5CalhadMonth c10CalhadMonth c27 m5MDhasMonths m4; omega)
                        · refine jr_iload rfl rfl ?_
                          refine jr_ic rfl ?_
                          refine jr_icmp_gt rfl (fun m7 => ?_) (fun m7 => ?_)
                          · refine jr_ic rfl ?_
                            refine jr_iret rfl rfl (Nat.zero_le _) (Nat.zero_le _) ?_
                            first
                              | exact ⟨rfl, hRel0⟩
                              | (exfalso; omega)
                              | (exfalso; simp (disch := omega) only [Int32.lt_iff_toInt_lt, Int32.le_iff_toInt_le, ← Int32.toInt_inj, Int32.reduceToInt, nI_toInt] at c1 c4 c1RephasMonth c5RephasMonth c1CalhadMonth c5CalhadMonth c10CalhadMonth c27 m5MDhasMonths m4 m7; done)
                              | (exfalso; simp (disch := omega) only [Int32.lt_iff_toInt_lt, Int32.le_iff_toInt_le, ← Int32.toInt_inj, Int32.reduceToInt, nI_toInt] at c1 c4 c1RephasMonth c5RephasMonth c1CalhadMonth c5CalhadMonth c10CalhadMonth c27 m5MDhasMonths m4 m7; omega)
                          · refine jr_iload rfl rfl ?_
                            refine jr_ic rfl ?_
                            refine jr_aload rfl rfl ?_
                            refine jr_getR rfl rfl rfl rfl (Or.inl rfl) ?_
                            refine jr_aload rfl rfl ?_
                            refine jr_getI rfl rfl ?_
                            refine jr_iald (len := 2) rfl rfl hw.1 (by omega) ?_
                            refine jr_ic rfl ?_
                            refine jr_isub rfl ?_
                            refine jr_cs3 (mc' := 0) (ms' := 0) rfl jm_MD_isIn_n jm_MD_isIn_f rfl rfl rfl rfl rfl (Nat.zero_le _) (Nat.zero_le _) ?_
                            show jx_W (jm_MD_isIn, _, _, _, _, _, _) _ 0 0 0 [some _, some _, some _] [] _
                            refine jr_iload rfl rfl ?_
                            refine jr_iload rfl rfl ?_
                            refine jr_icmp_lt rfl (fun m2MDisIn => ?_) (fun m2MDisIn => ?_)
                            · refine jr_ic rfl ?_
                              refine jr_zret rfl rfl rfl (Nat.zero_le _) (Nat.zero_le _) ?_
                              refine jr_if_ne rfl (fun z => absurd (by decide) z) (fun _ => ?_)
                              refine jr_ic rfl ?_
                              refine jr_iret rfl rfl (Nat.zero_le _) (Nat.zero_le _) ?_
                              first
                                | exact ⟨rfl, hRel0⟩
                                | (exfalso; omega)
                                | (exfalso; simp (disch := omega) only [Int32.lt_iff_toInt_lt, Int32.le_iff_toInt_le, ← Int32.toInt_inj, Int32.reduceToInt, nI_toInt] at c1 c4 c1RephasMonth c5RephasMonth c1CalhadMonth c5CalhadMonth c10CalhadMonth c27 m5MDhasMonths m4 m7 m2MDisIn; done)
                                | (exfalso; simp (disch := omega) only [Int32.lt_iff_toInt_lt, Int32.le_iff_toInt_le, ← Int32.toInt_inj, Int32.reduceToInt, nI_toInt] at c1 c4 c1RephasMonth c5RephasMonth c1CalhadMonth c5CalhadMonth c10CalhadMonth c27 m5MDhasMonths m4 m7 m2MDisIn; omega)
                            · refine jr_iload rfl rfl ?_
                              refine jr_iload rfl rfl ?_
                              refine jr_icmp_gt rfl (fun m5MDisIn => ?_) (fun m5MDisIn => ?_)
                              · refine jr_ic rfl ?_
                                refine jr_zret rfl rfl rfl (Nat.zero_le _) (Nat.zero_le _) ?_
                                refine jr_if_ne rfl (fun z => absurd (by decide) z) (fun _ => ?_)
                                refine jr_ic rfl ?_
                                refine jr_iret rfl rfl (Nat.zero_le _) (Nat.zero_le _) ?_
                                first
                                  | exact ⟨rfl, hRel0⟩
                                  | (exfalso; omega)
                                  | (exfalso; simp (disch := omega) only [Int32.lt_iff_toInt_lt, Int32.le_iff_toInt_le, ← Int32.toInt_inj, Int32.reduceToInt, nI_toInt] at c1 c4 c1RephasMonth c5RephasMonth c1CalhadMonth c5CalhadMonth c10CalhadMonth c27 m5MDhasMonths m4 m7 m2MDisIn m5MDisIn; done)
                                  | (exfalso; simp (disch := omega) only [Int32.lt_iff_toInt_lt, Int32.le_iff_toInt_le, ← Int32.toInt_inj, Int32.reduceToInt, nI_toInt] at c1 c4 c1RephasMonth c5RephasMonth c1CalhadMonth c5CalhadMonth c10CalhadMonth c27 m5MDhasMonths m4 m7 m2MDisIn m5MDisIn; omega)
                              · refine jr_ic rfl ?_
                                refine jr_goto rfl ?_
                                refine jr_zret rfl rfl rfl (Nat.zero_le _) (Nat.zero_le _) ?_
                                refine jr_if_ne rfl (fun _ => ?_) (fun z => absurd z (by decide))
                                refine jr_iload rfl rfl ?_
                                refine jr_aload rfl rfl ?_
                                refine jr_getR rfl rfl rfl rfl (Or.inl rfl) ?_
                                refine jr_aload rfl rfl ?_
                                refine jr_getI rfl rfl ?_
                                refine jr_iald (len := 2) rfl rfl hw.1 (by omega) ?_
                                refine jr_imul rfl ?_
                                refine jr_iload rfl rfl ?_
                                refine jr_iadd rfl ?_
                                refine jr_ist4 rfl rfl ?_
                                refine jr_iload rfl rfl ?_
                                refine jr_aload rfl rfl ?_
                                refine jr_getR rfl rfl rfl rfl (Or.inl rfl) ?_
                                refine jr_ic rfl ?_
                                refine jr_iald (len := 337) rfl rfl (show _ = nI 0 from rfl) (by decide) ?_
                                refine jr_icmp_ge rfl (fun m36 => ?_) (fun m36 => ?_)
                                · refine jr_ic rfl ?_
                                  refine jr_iret rfl rfl (Nat.zero_le _) (Nat.zero_le _) ?_
                                  first
                                    | exact ⟨rfl, hRel0⟩
                                    | (exfalso; omega)
                                    | (exfalso; simp (disch := omega) only [Int32.lt_iff_toInt_lt, Int32.le_iff_toInt_le, ← Int32.toInt_inj, Int32.reduceToInt, nI_toInt] at c1 c4 c1RephasMonth c5RephasMonth c1CalhadMonth c5CalhadMonth c10CalhadMonth c27 m5MDhasMonths m4 m7 m2MDisIn m5MDisIn m36; done)
                                    | (exfalso; simp (disch := omega) only [Int32.lt_iff_toInt_lt, Int32.le_iff_toInt_le, ← Int32.toInt_inj, Int32.reduceToInt, nI_toInt] at c1 c4 c1RephasMonth c5RephasMonth c1CalhadMonth c5CalhadMonth c10CalhadMonth c27 m5MDhasMonths m4 m7 m2MDisIn m5MDisIn m36; omega)
                                · refine jr_iload rfl rfl ?_
                                  refine jr_ic rfl ?_
                                  refine jr_aload rfl rfl ?_
                                  refine jr_getR rfl rfl rfl rfl (Or.inl rfl) ?_
                                  refine jr_ic rfl ?_
                                  refine jr_iload rfl rfl ?_
                                  refine jr_iadd rfl ?_
                                  first
                                    | (exfalso; omega)
                                    | (exfalso; simp (disch := omega) only [Int32.lt_iff_toInt_lt, Int32.le_iff_toInt_le, ← Int32.toInt_inj, Int32.reduceToInt, nI_toInt] at c1 c4 c1RephasMonth c5RephasMonth c1CalhadMonth c5CalhadMonth c10CalhadMonth c27 m5MDhasMonths m4 m7 m2MDisIn m5MDisIn m36; done)
                                    | (exfalso; simp (disch := omega) only [Int32.lt_iff_toInt_lt, Int32.le_iff_toInt_le, ← Int32.toInt_inj, Int32.reduceToInt, nI_toInt] at c1 c4 c1RephasMonth c5RephasMonth c1CalhadMonth c5CalhadMonth c10CalhadMonth c27 m5MDhasMonths m4 m7 m2MDisIn m5MDisIn m36; omega)
                    · refine jr_iload rfl rfl ?_
                      refine jr_aload rfl rfl ?_
                      refine jr_getR rfl rfl rfl rfl (Or.inl rfl) ?_
                      refine jr_getR rfl rfl rfl rfl (Or.inl rfl) ?_
                      refine jr_iload rfl rfl ?_
                      first
                        | (exfalso; omega)
                        | (exfalso; simp (disch := omega) only [Int32.lt_iff_toInt_lt, Int32.le_iff_toInt_le, ← Int32.toInt_inj, Int32.reduceToInt, nI_toInt] at c1 c4 c1RephasMonth c5RephasMonth c1CalhadMonth c5CalhadMonth c10CalhadMonth c27; done)
                        | (exfalso; simp (disch := omega) only [Int32.lt_iff_toInt_lt, Int32.le_iff_toInt_le, ← Int32.toInt_inj, Int32.reduceToInt, nI_toInt] at c1 c4 c1RephasMonth c5RephasMonth c1CalhadMonth c5CalhadMonth c10CalhadMonth c27; omega)
  · show jx_W (jm_JV_number, d + 40, 0, 0, false, 0, _) _ 0 0 0 [some (jv_r 10 0), some (jv_i x), some (jv_i u), some (jv_i z), none] [] _
    refine jr_iload rfl rfl ?_
    refine jr_if_lt rfl (fun c1 => ?_) (fun c1 => ?_)
    · refine jr_ic rfl ?_
      refine jr_iret rfl rfl (Nat.zero_le _) (Nat.zero_le _) ?_
      show jx_W (jm_MD_number, d + 40, 0, 0, false, 1, _) _ 0 0 0 [some _, some _, some _, some _, none, none, none] [] _
      refine jr_aload rfl rfl ?_
      refine jr_cv0 (mc' := 0) (ms' := 0) rfl jm_MD_hasMonths_n jm_MD_hasMonths_f rfl rfl rfl rfl rfl rfl rfl (Nat.zero_le _) (Nat.zero_le _) ?_
      show jx_W (jm_MD_hasMonths, _, _, _, _, _, _) _ 0 0 0 [some _] [] _
      refine jr_aload rfl rfl ?_
      refine jr_getR rfl rfl rfl rfl (Or.inl rfl) ?_
      refine jr_aload rfl rfl ?_
      refine jr_getI rfl rfl ?_
      refine jr_iald (len := 2) rfl rfl hw.1 (by omega) ?_
      refine jr_if_le rfl (fun m5MDhasMonths => ?_) (fun m5MDhasMonths => ?_)
      · refine jr_ic rfl ?_
        refine jr_zret rfl rfl rfl (Nat.zero_le _) (Nat.zero_le _) ?_
        refine jr_if_eq rfl (fun _ => ?_) (fun z => absurd (by decide) z)
        refine jr_ic rfl ?_
        refine jr_iret rfl rfl (Nat.zero_le _) (Nat.zero_le _) ?_
        first
          | exact ⟨rfl, hRel0⟩
          | (exfalso; omega)
          | (exfalso; simp (disch := omega) only [Int32.lt_iff_toInt_lt, Int32.le_iff_toInt_le, ← Int32.toInt_inj, Int32.reduceToInt, nI_toInt] at c1 m5MDhasMonths; done)
          | (exfalso; simp (disch := omega) only [Int32.lt_iff_toInt_lt, Int32.le_iff_toInt_le, ← Int32.toInt_inj, Int32.reduceToInt, nI_toInt] at c1 m5MDhasMonths; omega)
      · refine jr_ic rfl ?_
        refine jr_goto rfl ?_
        refine jr_zret rfl rfl rfl (Nat.zero_le _) (Nat.zero_le _) ?_
        refine jr_if_eq rfl (fun z => absurd z (by decide)) (fun _ => ?_)
        refine jr_iload rfl rfl ?_
        refine jr_if_lt rfl (fun m4 => ?_) (fun m4 => ?_)
        · refine jr_ic rfl ?_
          refine jr_iret rfl rfl (Nat.zero_le _) (Nat.zero_le _) ?_
          first
            | exact ⟨rfl, hRel0⟩
            | (exfalso; omega)
            | (exfalso; simp (disch := omega) only [Int32.lt_iff_toInt_lt, Int32.le_iff_toInt_le, ← Int32.toInt_inj, Int32.reduceToInt, nI_toInt] at c1 m5MDhasMonths m4; done)
            | (exfalso; simp (disch := omega) only [Int32.lt_iff_toInt_lt, Int32.le_iff_toInt_le, ← Int32.toInt_inj, Int32.reduceToInt, nI_toInt] at c1 m5MDhasMonths m4; omega)
        · refine jr_iload rfl rfl ?_
          refine jr_ic rfl ?_
          refine jr_icmp_gt rfl (fun m7 => ?_) (fun m7 => ?_)
          · refine jr_ic rfl ?_
            refine jr_iret rfl rfl (Nat.zero_le _) (Nat.zero_le _) ?_
            first
              | exact ⟨rfl, hRel0⟩
              | (exfalso; omega)
              | (exfalso; simp (disch := omega) only [Int32.lt_iff_toInt_lt, Int32.le_iff_toInt_le, ← Int32.toInt_inj, Int32.reduceToInt, nI_toInt] at c1 m5MDhasMonths m4 m7; done)
              | (exfalso; simp (disch := omega) only [Int32.lt_iff_toInt_lt, Int32.le_iff_toInt_le, ← Int32.toInt_inj, Int32.reduceToInt, nI_toInt] at c1 m5MDhasMonths m4 m7; omega)
          · refine jr_iload rfl rfl ?_
            refine jr_ic rfl ?_
            refine jr_aload rfl rfl ?_
            refine jr_getR rfl rfl rfl rfl (Or.inl rfl) ?_
            refine jr_aload rfl rfl ?_
            refine jr_getI rfl rfl ?_
            refine jr_iald (len := 2) rfl rfl hw.1 (by omega) ?_
            refine jr_ic rfl ?_
            refine jr_isub rfl ?_
            refine jr_cs3 (mc' := 0) (ms' := 0) rfl jm_MD_isIn_n jm_MD_isIn_f rfl rfl rfl rfl rfl (Nat.zero_le _) (Nat.zero_le _) ?_
            show jx_W (jm_MD_isIn, _, _, _, _, _, _) _ 0 0 0 [some _, some _, some _] [] _
            refine jr_iload rfl rfl ?_
            refine jr_iload rfl rfl ?_
            refine jr_icmp_lt rfl (fun m2MDisIn => ?_) (fun m2MDisIn => ?_)
            · refine jr_ic rfl ?_
              refine jr_zret rfl rfl rfl (Nat.zero_le _) (Nat.zero_le _) ?_
              refine jr_if_ne rfl (fun z => absurd (by decide) z) (fun _ => ?_)
              refine jr_ic rfl ?_
              refine jr_iret rfl rfl (Nat.zero_le _) (Nat.zero_le _) ?_
              first
                | exact ⟨rfl, hRel0⟩
                | (exfalso; omega)
                | (exfalso; simp (disch := omega) only [Int32.lt_iff_toInt_lt, Int32.le_iff_toInt_le, ← Int32.toInt_inj, Int32.reduceToInt, nI_toInt] at c1 m5MDhasMonths m4 m7 m2MDisIn; done)
                | (exfalso; simp (disch := omega) only [Int32.lt_iff_toInt_lt, Int32.le_iff_toInt_le, ← Int32.toInt_inj, Int32.reduceToInt, nI_toInt] at c1 m5MDhasMonths m4 m7 m2MDisIn; omega)
            · refine jr_iload rfl rfl ?_
              refine jr_iload rfl rfl ?_
              refine jr_icmp_gt rfl (fun m5MDisIn => ?_) (fun m5MDisIn => ?_)
              · refine jr_ic rfl ?_
                refine jr_zret rfl rfl rfl (Nat.zero_le _) (Nat.zero_le _) ?_
                refine jr_if_ne rfl (fun z => absurd (by decide) z) (fun _ => ?_)
                refine jr_ic rfl ?_
                refine jr_iret rfl rfl (Nat.zero_le _) (Nat.zero_le _) ?_
                first
                  | exact ⟨rfl, hRel0⟩
                  | (exfalso; omega)
                  | (exfalso; simp (disch := omega) only [Int32.lt_iff_toInt_lt, Int32.le_iff_toInt_le, ← Int32.toInt_inj, Int32.reduceToInt, nI_toInt] at c1 m5MDhasMonths m4 m7 m2MDisIn m5MDisIn; done)
                  | (exfalso; simp (disch := omega) only [Int32.lt_iff_toInt_lt, Int32.le_iff_toInt_le, ← Int32.toInt_inj, Int32.reduceToInt, nI_toInt] at c1 m5MDhasMonths m4 m7 m2MDisIn m5MDisIn; omega)
              · refine jr_ic rfl ?_
                refine jr_goto rfl ?_
                refine jr_zret rfl rfl rfl (Nat.zero_le _) (Nat.zero_le _) ?_
                refine jr_if_ne rfl (fun _ => ?_) (fun z => absurd z (by decide))
                refine jr_iload rfl rfl ?_
                refine jr_aload rfl rfl ?_
                refine jr_getR rfl rfl rfl rfl (Or.inl rfl) ?_
                refine jr_aload rfl rfl ?_
                refine jr_getI rfl rfl ?_
                refine jr_iald (len := 2) rfl rfl hw.1 (by omega) ?_
                refine jr_imul rfl ?_
                refine jr_iload rfl rfl ?_
                refine jr_iadd rfl ?_
                refine jr_ist4 rfl rfl ?_
                refine jr_iload rfl rfl ?_
                refine jr_aload rfl rfl ?_
                refine jr_getR rfl rfl rfl rfl (Or.inl rfl) ?_
                refine jr_ic rfl ?_
                refine jr_iald (len := 337) rfl rfl (show _ = nI 0 from rfl) (by decide) ?_
                refine jr_icmp_ge rfl (fun m36 => ?_) (fun m36 => ?_)
                · refine jr_ic rfl ?_
                  refine jr_iret rfl rfl (Nat.zero_le _) (Nat.zero_le _) ?_
                  first
                    | exact ⟨rfl, hRel0⟩
                    | (exfalso; omega)
                    | (exfalso; simp (disch := omega) only [Int32.lt_iff_toInt_lt, Int32.le_iff_toInt_le, ← Int32.toInt_inj, Int32.reduceToInt, nI_toInt] at c1 m5MDhasMonths m4 m7 m2MDisIn m5MDisIn m36; done)
                    | (exfalso; simp (disch := omega) only [Int32.lt_iff_toInt_lt, Int32.le_iff_toInt_le, ← Int32.toInt_inj, Int32.reduceToInt, nI_toInt] at c1 m5MDhasMonths m4 m7 m2MDisIn m5MDisIn m36; omega)
                · refine jr_iload rfl rfl ?_
                  refine jr_ic rfl ?_
                  refine jr_aload rfl rfl ?_
                  refine jr_getR rfl rfl rfl rfl (Or.inl rfl) ?_
                  refine jr_ic rfl ?_
                  refine jr_iload rfl rfl ?_
                  refine jr_iadd rfl ?_
                  first
                    | (exfalso; omega)
                    | (exfalso; simp (disch := omega) only [Int32.lt_iff_toInt_lt, Int32.le_iff_toInt_le, ← Int32.toInt_inj, Int32.reduceToInt, nI_toInt] at c1 m5MDhasMonths m4 m7 m2MDisIn m5MDisIn m36; done)
                    | (exfalso; simp (disch := omega) only [Int32.lt_iff_toInt_lt, Int32.le_iff_toInt_le, ← Int32.toInt_inj, Int32.reduceToInt, nI_toInt] at c1 m5MDhasMonths m4 m7 m2MDisIn m5MDisIn m36; omega)
    · refine jr_iload rfl rfl ?_
      refine jr_ic rfl ?_
      refine jr_icmp_gt rfl (fun c4 => ?_) (fun c4 => ?_)
      · refine jr_ic rfl ?_
        refine jr_iret rfl rfl (Nat.zero_le _) (Nat.zero_le _) ?_
        show jx_W (jm_MD_number, d + 40, 0, 0, false, 1, _) _ 0 0 0 [some _, some _, some _, some _, none, none, none] [] _
        refine jr_aload rfl rfl ?_
        refine jr_cv0 (mc' := 0) (ms' := 0) rfl jm_MD_hasMonths_n jm_MD_hasMonths_f rfl rfl rfl rfl rfl rfl rfl (Nat.zero_le _) (Nat.zero_le _) ?_
        show jx_W (jm_MD_hasMonths, _, _, _, _, _, _) _ 0 0 0 [some _] [] _
        refine jr_aload rfl rfl ?_
        refine jr_getR rfl rfl rfl rfl (Or.inl rfl) ?_
        refine jr_aload rfl rfl ?_
        refine jr_getI rfl rfl ?_
        refine jr_iald (len := 2) rfl rfl hw.1 (by omega) ?_
        refine jr_if_le rfl (fun m5MDhasMonths => ?_) (fun m5MDhasMonths => ?_)
        · refine jr_ic rfl ?_
          refine jr_zret rfl rfl rfl (Nat.zero_le _) (Nat.zero_le _) ?_
          refine jr_if_eq rfl (fun _ => ?_) (fun z => absurd (by decide) z)
          refine jr_ic rfl ?_
          refine jr_iret rfl rfl (Nat.zero_le _) (Nat.zero_le _) ?_
          first
            | exact ⟨rfl, hRel0⟩
            | (exfalso; omega)
            | (exfalso; simp (disch := omega) only [Int32.lt_iff_toInt_lt, Int32.le_iff_toInt_le, ← Int32.toInt_inj, Int32.reduceToInt, nI_toInt] at c1 c4 m5MDhasMonths; done)
            | (exfalso; simp (disch := omega) only [Int32.lt_iff_toInt_lt, Int32.le_iff_toInt_le, ← Int32.toInt_inj, Int32.reduceToInt, nI_toInt] at c1 c4 m5MDhasMonths; omega)
        · refine jr_ic rfl ?_
          refine jr_goto rfl ?_
          refine jr_zret rfl rfl rfl (Nat.zero_le _) (Nat.zero_le _) ?_
          refine jr_if_eq rfl (fun z => absurd z (by decide)) (fun _ => ?_)
          refine jr_iload rfl rfl ?_
          refine jr_if_lt rfl (fun m4 => ?_) (fun m4 => ?_)
          · refine jr_ic rfl ?_
            refine jr_iret rfl rfl (Nat.zero_le _) (Nat.zero_le _) ?_
            first
              | exact ⟨rfl, hRel0⟩
              | (exfalso; omega)
              | (exfalso; simp (disch := omega) only [Int32.lt_iff_toInt_lt, Int32.le_iff_toInt_le, ← Int32.toInt_inj, Int32.reduceToInt, nI_toInt] at c1 c4 m5MDhasMonths m4; done)
              | (exfalso; simp (disch := omega) only [Int32.lt_iff_toInt_lt, Int32.le_iff_toInt_le, ← Int32.toInt_inj, Int32.reduceToInt, nI_toInt] at c1 c4 m5MDhasMonths m4; omega)
          · refine jr_iload rfl rfl ?_
            refine jr_ic rfl ?_
            refine jr_icmp_gt rfl (fun m7 => ?_) (fun m7 => ?_)
            · refine jr_ic rfl ?_
              refine jr_iret rfl rfl (Nat.zero_le _) (Nat.zero_le _) ?_
              first
                | exact ⟨rfl, hRel0⟩
                | (exfalso; omega)
                | (exfalso; simp (disch := omega) only [Int32.lt_iff_toInt_lt, Int32.le_iff_toInt_le, ← Int32.toInt_inj, Int32.reduceToInt, nI_toInt] at c1 c4 m5MDhasMonths m4 m7; done)
                | (exfalso; simp (disch := omega) only [Int32.lt_iff_toInt_lt, Int32.le_iff_toInt_le, ← Int32.toInt_inj, Int32.reduceToInt, nI_toInt] at c1 c4 m5MDhasMonths m4 m7; omega)
            · refine jr_iload rfl rfl ?_
              refine jr_ic rfl ?_
              refine jr_aload rfl rfl ?_
              refine jr_getR rfl rfl rfl rfl (Or.inl rfl) ?_
              refine jr_aload rfl rfl ?_
              refine jr_getI rfl rfl ?_
              refine jr_iald (len := 2) rfl rfl hw.1 (by omega) ?_
              refine jr_ic rfl ?_
              refine jr_isub rfl ?_
              refine jr_cs3 (mc' := 0) (ms' := 0) rfl jm_MD_isIn_n jm_MD_isIn_f rfl rfl rfl rfl rfl (Nat.zero_le _) (Nat.zero_le _) ?_
              show jx_W (jm_MD_isIn, _, _, _, _, _, _) _ 0 0 0 [some _, some _, some _] [] _
              refine jr_iload rfl rfl ?_
              refine jr_iload rfl rfl ?_
              refine jr_icmp_lt rfl (fun m2MDisIn => ?_) (fun m2MDisIn => ?_)
              · refine jr_ic rfl ?_
                refine jr_zret rfl rfl rfl (Nat.zero_le _) (Nat.zero_le _) ?_
                refine jr_if_ne rfl (fun z => absurd (by decide) z) (fun _ => ?_)
                refine jr_ic rfl ?_
                refine jr_iret rfl rfl (Nat.zero_le _) (Nat.zero_le _) ?_
                first
                  | exact ⟨rfl, hRel0⟩
                  | (exfalso; omega)
                  | (exfalso; simp (disch := omega) only [Int32.lt_iff_toInt_lt, Int32.le_iff_toInt_le, ← Int32.toInt_inj, Int32.reduceToInt, nI_toInt] at c1 c4 m5MDhasMonths m4 m7 m2MDisIn; done)
                  | (exfalso; simp (disch := omega) only [Int32.lt_iff_toInt_lt, Int32.le_iff_toInt_le, ← Int32.toInt_inj, Int32.reduceToInt, nI_toInt] at c1 c4 m5MDhasMonths m4 m7 m2MDisIn; omega)
              · refine jr_iload rfl rfl ?_
                refine jr_iload rfl rfl ?_
                refine jr_icmp_gt rfl (fun m5MDisIn => ?_) (fun m5MDisIn => ?_)
                · refine jr_ic rfl ?_
                  refine jr_zret rfl rfl rfl (Nat.zero_le _) (Nat.zero_le _) ?_
                  refine jr_if_ne rfl (fun z => absurd (by decide) z) (fun _ => ?_)
                  refine jr_ic rfl ?_
                  refine jr_iret rfl rfl (Nat.zero_le _) (Nat.zero_le _) ?_
                  first
                    | exact ⟨rfl, hRel0⟩
                    | (exfalso; omega)
                    | (exfalso; simp (disch := omega) only [Int32.lt_iff_toInt_lt, Int32.le_iff_toInt_le, ← Int32.toInt_inj, Int32.reduceToInt, nI_toInt] at c1 c4 m5MDhasMonths m4 m7 m2MDisIn m5MDisIn; done)
                    | (exfalso; simp (disch := omega) only [Int32.lt_iff_toInt_lt, Int32.le_iff_toInt_le, ← Int32.toInt_inj, Int32.reduceToInt, nI_toInt] at c1 c4 m5MDhasMonths m4 m7 m2MDisIn m5MDisIn; omega)
                · refine jr_ic rfl ?_
                  refine jr_goto rfl ?_
                  refine jr_zret rfl rfl rfl (Nat.zero_le _) (Nat.zero_le _) ?_
                  refine jr_if_ne rfl (fun _ => ?_) (fun z => absurd z (by decide))
                  refine jr_iload rfl rfl ?_
                  refine jr_aload rfl rfl ?_
                  refine jr_getR rfl rfl rfl rfl (Or.inl rfl) ?_
                  refine jr_aload rfl rfl ?_
                  refine jr_getI rfl rfl ?_
                  refine jr_iald (len := 2) rfl rfl hw.1 (by omega) ?_
                  refine jr_imul rfl ?_
                  refine jr_iload rfl rfl ?_
                  refine jr_iadd rfl ?_
                  refine jr_ist4 rfl rfl ?_
                  refine jr_iload rfl rfl ?_
                  refine jr_aload rfl rfl ?_
                  refine jr_getR rfl rfl rfl rfl (Or.inl rfl) ?_
                  refine jr_ic rfl ?_
                  refine jr_iald (len := 337) rfl rfl (show _ = nI 0 from rfl) (by decide) ?_
                  refine jr_icmp_ge rfl (fun m36 => ?_) (fun m36 => ?_)
                  · refine jr_ic rfl ?_
                    refine jr_iret rfl rfl (Nat.zero_le _) (Nat.zero_le _) ?_
                    first
                      | exact ⟨rfl, hRel0⟩
                      | (exfalso; omega)
                      | (exfalso; simp (disch := omega) only [Int32.lt_iff_toInt_lt, Int32.le_iff_toInt_le, ← Int32.toInt_inj, Int32.reduceToInt, nI_toInt] at c1 c4 m5MDhasMonths m4 m7 m2MDisIn m5MDisIn m36; done)
                      | (exfalso; simp (disch := omega) only [Int32.lt_iff_toInt_lt, Int32.le_iff_toInt_le, ← Int32.toInt_inj, Int32.reduceToInt, nI_toInt] at c1 c4 m5MDhasMonths m4 m7 m2MDisIn m5MDisIn m36; omega)
                  · refine jr_iload rfl rfl ?_
                    refine jr_ic rfl ?_
                    refine jr_aload rfl rfl ?_
                    refine jr_getR rfl rfl rfl rfl (Or.inl rfl) ?_
                    refine jr_ic rfl ?_
                    refine jr_iload rfl rfl ?_
                    refine jr_iadd rfl ?_
                    first
                      | (exfalso; omega)
                      | (exfalso; simp (disch := omega) only [Int32.lt_iff_toInt_lt, Int32.le_iff_toInt_le, ← Int32.toInt_inj, Int32.reduceToInt, nI_toInt] at c1 c4 m5MDhasMonths m4 m7 m2MDisIn m5MDisIn m36; done)
                      | (exfalso; simp (disch := omega) only [Int32.lt_iff_toInt_lt, Int32.le_iff_toInt_le, ← Int32.toInt_inj, Int32.reduceToInt, nI_toInt] at c1 c4 m5MDhasMonths m4 m7 m2MDisIn m5MDisIn m36; omega)
      · refine jr_aload rfl rfl ?_
        refine jr_getM rfl rfl rfl rfl hto ?_
        refine jr_iload rfl rfl ?_
        refine jr_cv1 (mc' := 0) (ms' := 0) rfl jm_Rep_hasMonth_n jm_Rep_hasMonth_f rfl rfl rfl rfl rfl rfl rfl (Nat.zero_le _) (Nat.zero_le _) ?_
        show jx_W (jm_Rep_hasMonth, _, _, _, _, _, _) _ 0 0 0 [some _, some _] [] _
        refine jr_iload rfl rfl ?_
        refine jr_if_lt rfl (fun c1RephasMonth => ?_) (fun c1RephasMonth => ?_)
        · refine jr_ic rfl ?_
          refine jr_zret rfl rfl rfl (Nat.zero_le _) (Nat.zero_le _) ?_
          refine jr_if_ne rfl (fun z => absurd (by decide) z) (fun _ => ?_)
          refine jr_ic rfl ?_
          refine jr_iret rfl rfl (Nat.zero_le _) (Nat.zero_le _) ?_
          show jx_W (jm_MD_number, d + 40, 0, 0, false, 1, _) _ 0 0 0 [some _, some _, some _, some _, none, none, none] [] _
          refine jr_aload rfl rfl ?_
          refine jr_cv0 (mc' := 0) (ms' := 0) rfl jm_MD_hasMonths_n jm_MD_hasMonths_f rfl rfl rfl rfl rfl rfl rfl (Nat.zero_le _) (Nat.zero_le _) ?_
          show jx_W (jm_MD_hasMonths, _, _, _, _, _, _) _ 0 0 0 [some _] [] _
          refine jr_aload rfl rfl ?_
          refine jr_getR rfl rfl rfl rfl (Or.inl rfl) ?_
          refine jr_aload rfl rfl ?_
          refine jr_getI rfl rfl ?_
          refine jr_iald (len := 2) rfl rfl hw.1 (by omega) ?_
          refine jr_if_le rfl (fun m5MDhasMonths => ?_) (fun m5MDhasMonths => ?_)
          · refine jr_ic rfl ?_
            refine jr_zret rfl rfl rfl (Nat.zero_le _) (Nat.zero_le _) ?_
            refine jr_if_eq rfl (fun _ => ?_) (fun z => absurd (by decide) z)
            refine jr_ic rfl ?_
            refine jr_iret rfl rfl (Nat.zero_le _) (Nat.zero_le _) ?_
            first
              | exact ⟨rfl, hRel0⟩
              | (exfalso; omega)
              | (exfalso; simp (disch := omega) only [Int32.lt_iff_toInt_lt, Int32.le_iff_toInt_le, ← Int32.toInt_inj, Int32.reduceToInt, nI_toInt] at c1 c4 c1RephasMonth m5MDhasMonths; done)
              | (exfalso; simp (disch := omega) only [Int32.lt_iff_toInt_lt, Int32.le_iff_toInt_le, ← Int32.toInt_inj, Int32.reduceToInt, nI_toInt] at c1 c4 c1RephasMonth m5MDhasMonths; omega)
          · refine jr_ic rfl ?_
            refine jr_goto rfl ?_
            refine jr_zret rfl rfl rfl (Nat.zero_le _) (Nat.zero_le _) ?_
            refine jr_if_eq rfl (fun z => absurd z (by decide)) (fun _ => ?_)
            refine jr_iload rfl rfl ?_
            refine jr_if_lt rfl (fun m4 => ?_) (fun m4 => ?_)
            · refine jr_ic rfl ?_
              refine jr_iret rfl rfl (Nat.zero_le _) (Nat.zero_le _) ?_
              first
                | exact ⟨rfl, hRel0⟩
                | (exfalso; omega)
                | (exfalso; simp (disch := omega) only [Int32.lt_iff_toInt_lt, Int32.le_iff_toInt_le, ← Int32.toInt_inj, Int32.reduceToInt, nI_toInt] at c1 c4 c1RephasMonth m5MDhasMonths m4; done)
                | (exfalso; simp (disch := omega) only [Int32.lt_iff_toInt_lt, Int32.le_iff_toInt_le, ← Int32.toInt_inj, Int32.reduceToInt, nI_toInt] at c1 c4 c1RephasMonth m5MDhasMonths m4; omega)
            · refine jr_iload rfl rfl ?_
              refine jr_ic rfl ?_
              refine jr_icmp_gt rfl (fun m7 => ?_) (fun m7 => ?_)
              · refine jr_ic rfl ?_
                refine jr_iret rfl rfl (Nat.zero_le _) (Nat.zero_le _) ?_
                first
                  | exact ⟨rfl, hRel0⟩
                  | (exfalso; omega)
                  | (exfalso; simp (disch := omega) only [Int32.lt_iff_toInt_lt, Int32.le_iff_toInt_le, ← Int32.toInt_inj, Int32.reduceToInt, nI_toInt] at c1 c4 c1RephasMonth m5MDhasMonths m4 m7; done)
                  | (exfalso; simp (disch := omega) only [Int32.lt_iff_toInt_lt, Int32.le_iff_toInt_le, ← Int32.toInt_inj, Int32.reduceToInt, nI_toInt] at c1 c4 c1RephasMonth m5MDhasMonths m4 m7; omega)
              · refine jr_iload rfl rfl ?_
                refine jr_ic rfl ?_
                refine jr_aload rfl rfl ?_
                refine jr_getR rfl rfl rfl rfl (Or.inl rfl) ?_
                refine jr_aload rfl rfl ?_
                refine jr_getI rfl rfl ?_
                refine jr_iald (len := 2) rfl rfl hw.1 (by omega) ?_
                refine jr_ic rfl ?_
                refine jr_isub rfl ?_
                refine jr_cs3 (mc' := 0) (ms' := 0) rfl jm_MD_isIn_n jm_MD_isIn_f rfl rfl rfl rfl rfl (Nat.zero_le _) (Nat.zero_le _) ?_
                show jx_W (jm_MD_isIn, _, _, _, _, _, _) _ 0 0 0 [some _, some _, some _] [] _
                refine jr_iload rfl rfl ?_
                refine jr_iload rfl rfl ?_
                refine jr_icmp_lt rfl (fun m2MDisIn => ?_) (fun m2MDisIn => ?_)
                · refine jr_ic rfl ?_
                  refine jr_zret rfl rfl rfl (Nat.zero_le _) (Nat.zero_le _) ?_
                  refine jr_if_ne rfl (fun z => absurd (by decide) z) (fun _ => ?_)
                  refine jr_ic rfl ?_
                  refine jr_iret rfl rfl (Nat.zero_le _) (Nat.zero_le _) ?_
                  first
                    | exact ⟨rfl, hRel0⟩
                    | (exfalso; omega)
                    | (exfalso; simp (disch := omega) only [Int32.lt_iff_toInt_lt, Int32.le_iff_toInt_le, ← Int32.toInt_inj, Int32.reduceToInt, nI_toInt] at c1 c4 c1RephasMonth m5MDhasMonths m4 m7 m2MDisIn; done)
                    | (exfalso; simp (disch := omega) only [Int32.lt_iff_toInt_lt, Int32.le_iff_toInt_le, ← Int32.toInt_inj, Int32.reduceToInt, nI_toInt] at c1 c4 c1RephasMonth m5MDhasMonths m4 m7 m2MDisIn; omega)
                · refine jr_iload rfl rfl ?_
                  refine jr_iload rfl rfl ?_
                  refine jr_icmp_gt rfl (fun m5MDisIn => ?_) (fun m5MDisIn => ?_)
                  · refine jr_ic rfl ?_
                    refine jr_zret rfl rfl rfl (Nat.zero_le _) (Nat.zero_le _) ?_
                    refine jr_if_ne rfl (fun z => absurd (by decide) z) (fun _ => ?_)
                    refine jr_ic rfl ?_
                    refine jr_iret rfl rfl (Nat.zero_le _) (Nat.zero_le _) ?_
                    first
                      | exact ⟨rfl, hRel0⟩
                      | (exfalso; omega)
                      | (exfalso; simp (disch := omega) only [Int32.lt_iff_toInt_lt, Int32.le_iff_toInt_le, ← Int32.toInt_inj, Int32.reduceToInt, nI_toInt] at c1 c4 c1RephasMonth m5MDhasMonths m4 m7 m2MDisIn m5MDisIn; done)
                      | (exfalso; simp (disch := omega) only [Int32.lt_iff_toInt_lt, Int32.le_iff_toInt_le, ← Int32.toInt_inj, Int32.reduceToInt, nI_toInt] at c1 c4 c1RephasMonth m5MDhasMonths m4 m7 m2MDisIn m5MDisIn; omega)
                  · refine jr_ic rfl ?_
                    refine jr_goto rfl ?_
                    refine jr_zret rfl rfl rfl (Nat.zero_le _) (Nat.zero_le _) ?_
                    refine jr_if_ne rfl (fun _ => ?_) (fun z => absurd z (by decide))
                    refine jr_iload rfl rfl ?_
                    refine jr_aload rfl rfl ?_
                    refine jr_getR rfl rfl rfl rfl (Or.inl rfl) ?_
                    refine jr_aload rfl rfl ?_
                    refine jr_getI rfl rfl ?_
                    refine jr_iald (len := 2) rfl rfl hw.1 (by omega) ?_
                    refine jr_imul rfl ?_
                    refine jr_iload rfl rfl ?_
                    refine jr_iadd rfl ?_
                    refine jr_ist4 rfl rfl ?_
                    refine jr_iload rfl rfl ?_
                    refine jr_aload rfl rfl ?_
                    refine jr_getR rfl rfl rfl rfl (Or.inl rfl) ?_
                    refine jr_ic rfl ?_
                    refine jr_iald (len := 337) rfl rfl (show _ = nI 0 from rfl) (by decide) ?_
                    refine jr_icmp_ge rfl (fun m36 => ?_) (fun m36 => ?_)
                    · refine jr_ic rfl ?_
                      refine jr_iret rfl rfl (Nat.zero_le _) (Nat.zero_le _) ?_
                      first
                        | exact ⟨rfl, hRel0⟩
                        | (exfalso; omega)
                        | (exfalso; simp (disch := omega) only [Int32.lt_iff_toInt_lt, Int32.le_iff_toInt_le, ← Int32.toInt_inj, Int32.reduceToInt, nI_toInt] at c1 c4 c1RephasMonth m5MDhasMonths m4 m7 m2MDisIn m5MDisIn m36; done)
                        | (exfalso; simp (disch := omega) only [Int32.lt_iff_toInt_lt, Int32.le_iff_toInt_le, ← Int32.toInt_inj, Int32.reduceToInt, nI_toInt] at c1 c4 c1RephasMonth m5MDhasMonths m4 m7 m2MDisIn m5MDisIn m36; omega)
                    · refine jr_iload rfl rfl ?_
                      refine jr_ic rfl ?_
                      refine jr_aload rfl rfl ?_
                      refine jr_getR rfl rfl rfl rfl (Or.inl rfl) ?_
                      refine jr_ic rfl ?_
                      refine jr_iload rfl rfl ?_
                      refine jr_iadd rfl ?_
                      first
                        | (exfalso; omega)
                        | (exfalso; simp (disch := omega) only [Int32.lt_iff_toInt_lt, Int32.le_iff_toInt_le, ← Int32.toInt_inj, Int32.reduceToInt, nI_toInt] at c1 c4 c1RephasMonth m5MDhasMonths m4 m7 m2MDisIn m5MDisIn m36; done)
                        | (exfalso; simp (disch := omega) only [Int32.lt_iff_toInt_lt, Int32.le_iff_toInt_le, ← Int32.toInt_inj, Int32.reduceToInt, nI_toInt] at c1 c4 c1RephasMonth m5MDhasMonths m4 m7 m2MDisIn m5MDisIn m36; omega)
        · refine jr_iload rfl rfl ?_
          refine jr_aload rfl rfl ?_
          refine jr_getI rfl rfl ?_
          refine jr_icmp_ge rfl (fun c5RephasMonth => ?_) (fun c5RephasMonth => ?_)
          · refine jr_ic rfl ?_
            refine jr_zret rfl rfl rfl (Nat.zero_le _) (Nat.zero_le _) ?_
            refine jr_if_ne rfl (fun z => absurd (by decide) z) (fun _ => ?_)
            refine jr_ic rfl ?_
            refine jr_iret rfl rfl (Nat.zero_le _) (Nat.zero_le _) ?_
            show jx_W (jm_MD_number, d + 40, 0, 0, false, 1, _) _ 0 0 0 [some _, some _, some _, some _, none, none, none] [] _
            refine jr_aload rfl rfl ?_
            refine jr_cv0 (mc' := 0) (ms' := 0) rfl jm_MD_hasMonths_n jm_MD_hasMonths_f rfl rfl rfl rfl rfl rfl rfl (Nat.zero_le _) (Nat.zero_le _) ?_
            show jx_W (jm_MD_hasMonths, _, _, _, _, _, _) _ 0 0 0 [some _] [] _
            refine jr_aload rfl rfl ?_
            refine jr_getR rfl rfl rfl rfl (Or.inl rfl) ?_
            refine jr_aload rfl rfl ?_
            refine jr_getI rfl rfl ?_
            refine jr_iald (len := 2) rfl rfl hw.1 (by omega) ?_
            refine jr_if_le rfl (fun m5MDhasMonths => ?_) (fun m5MDhasMonths => ?_)
            · refine jr_ic rfl ?_
              refine jr_zret rfl rfl rfl (Nat.zero_le _) (Nat.zero_le _) ?_
              refine jr_if_eq rfl (fun _ => ?_) (fun z => absurd (by decide) z)
              refine jr_ic rfl ?_
              refine jr_iret rfl rfl (Nat.zero_le _) (Nat.zero_le _) ?_
              first
                | exact ⟨rfl, hRel0⟩
                | (exfalso; omega)
                | (exfalso; simp (disch := omega) only [Int32.lt_iff_toInt_lt, Int32.le_iff_toInt_le, ← Int32.toInt_inj, Int32.reduceToInt, nI_toInt] at c1 c4 c1RephasMonth c5RephasMonth m5MDhasMonths; done)
                | (exfalso; simp (disch := omega) only [Int32.lt_iff_toInt_lt, Int32.le_iff_toInt_le, ← Int32.toInt_inj, Int32.reduceToInt, nI_toInt] at c1 c4 c1RephasMonth c5RephasMonth m5MDhasMonths; omega)
            · refine jr_ic rfl ?_
              refine jr_goto rfl ?_
              refine jr_zret rfl rfl rfl (Nat.zero_le _) (Nat.zero_le _) ?_
              refine jr_if_eq rfl (fun z => absurd z (by decide)) (fun _ => ?_)
              refine jr_iload rfl rfl ?_
              refine jr_if_lt rfl (fun m4 => ?_) (fun m4 => ?_)
              · refine jr_ic rfl ?_
                refine jr_iret rfl rfl (Nat.zero_le _) (Nat.zero_le _) ?_
                first
                  | exact ⟨rfl, hRel0⟩
                  | (exfalso; omega)
                  | (exfalso; simp (disch := omega) only [Int32.lt_iff_toInt_lt, Int32.le_iff_toInt_le, ← Int32.toInt_inj, Int32.reduceToInt, nI_toInt] at c1 c4 c1RephasMonth c5RephasMonth m5MDhasMonths m4; done)
                  | (exfalso; simp (disch := omega) only [Int32.lt_iff_toInt_lt, Int32.le_iff_toInt_le, ← Int32.toInt_inj, Int32.reduceToInt, nI_toInt] at c1 c4 c1RephasMonth c5RephasMonth m5MDhasMonths m4; omega)
              · refine jr_iload rfl rfl ?_
                refine jr_ic rfl ?_
                refine jr_icmp_gt rfl (fun m7 => ?_) (fun m7 => ?_)
                · refine jr_ic rfl ?_
                  refine jr_iret rfl rfl (Nat.zero_le _) (Nat.zero_le _) ?_
                  first
                    | exact ⟨rfl, hRel0⟩
                    | (exfalso; omega)
                    | (exfalso; simp (disch := omega) only [Int32.lt_iff_toInt_lt, Int32.le_iff_toInt_le, ← Int32.toInt_inj, Int32.reduceToInt, nI_toInt] at c1 c4 c1RephasMonth c5RephasMonth m5MDhasMonths m4 m7; done)
                    | (exfalso; simp (disch := omega) only [Int32.lt_iff_toInt_lt, Int32.le_iff_toInt_le, ← Int32.toInt_inj, Int32.reduceToInt, nI_toInt] at c1 c4 c1RephasMonth c5RephasMonth m5MDhasMonths m4 m7; omega)
                · refine jr_iload rfl rfl ?_
                  refine jr_ic rfl ?_
                  refine jr_aload rfl rfl ?_
                  refine jr_getR rfl rfl rfl rfl (Or.inl rfl) ?_
                  refine jr_aload rfl rfl ?_
                  refine jr_getI rfl rfl ?_
                  refine jr_iald (len := 2) rfl rfl hw.1 (by omega) ?_
                  refine jr_ic rfl ?_
                  refine jr_isub rfl ?_
                  refine jr_cs3 (mc' := 0) (ms' := 0) rfl jm_MD_isIn_n jm_MD_isIn_f rfl rfl rfl rfl rfl (Nat.zero_le _) (Nat.zero_le _) ?_
                  show jx_W (jm_MD_isIn, _, _, _, _, _, _) _ 0 0 0 [some _, some _, some _] [] _
                  refine jr_iload rfl rfl ?_
                  refine jr_iload rfl rfl ?_
                  refine jr_icmp_lt rfl (fun m2MDisIn => ?_) (fun m2MDisIn => ?_)
                  · refine jr_ic rfl ?_
                    refine jr_zret rfl rfl rfl (Nat.zero_le _) (Nat.zero_le _) ?_
                    refine jr_if_ne rfl (fun z => absurd (by decide) z) (fun _ => ?_)
                    refine jr_ic rfl ?_
                    refine jr_iret rfl rfl (Nat.zero_le _) (Nat.zero_le _) ?_
                    first
                      | exact ⟨rfl, hRel0⟩
                      | (exfalso; omega)
                      | (exfalso; simp (disch := omega) only [Int32.lt_iff_toInt_lt, Int32.le_iff_toInt_le, ← Int32.toInt_inj, Int32.reduceToInt, nI_toInt] at c1 c4 c1RephasMonth c5RephasMonth m5MDhasMonths m4 m7 m2MDisIn; done)
                      | (exfalso; simp (disch := omega) only [Int32.lt_iff_toInt_lt, Int32.le_iff_toInt_le, ← Int32.toInt_inj, Int32.reduceToInt, nI_toInt] at c1 c4 c1RephasMonth c5RephasMonth m5MDhasMonths m4 m7 m2MDisIn; omega)
                  · refine jr_iload rfl rfl ?_
                    refine jr_iload rfl rfl ?_
                    refine jr_icmp_gt rfl (fun m5MDisIn => ?_) (fun m5MDisIn => ?_)
                    · refine jr_ic rfl ?_
                      refine jr_zret rfl rfl rfl (Nat.zero_le _) (Nat.zero_le _) ?_
                      refine jr_if_ne rfl (fun z => absurd (by decide) z) (fun _ => ?_)
                      refine jr_ic rfl ?_
                      refine jr_iret rfl rfl (Nat.zero_le _) (Nat.zero_le _) ?_
                      first
                        | exact ⟨rfl, hRel0⟩
                        | (exfalso; omega)
                        | (exfalso; simp (disch := omega) only [Int32.lt_iff_toInt_lt, Int32.le_iff_toInt_le, ← Int32.toInt_inj, Int32.reduceToInt, nI_toInt] at c1 c4 c1RephasMonth c5RephasMonth m5MDhasMonths m4 m7 m2MDisIn m5MDisIn; done)
                        | (exfalso; simp (disch := omega) only [Int32.lt_iff_toInt_lt, Int32.le_iff_toInt_le, ← Int32.toInt_inj, Int32.reduceToInt, nI_toInt] at c1 c4 c1RephasMonth c5RephasMonth m5MDhasMonths m4 m7 m2MDisIn m5MDisIn; omega)
                    · refine jr_ic rfl ?_
                      refine jr_goto rfl ?_
                      refine jr_zret rfl rfl rfl (Nat.zero_le _) (Nat.zero_le _) ?_
                      refine jr_if_ne rfl (fun _ => ?_) (fun z => absurd z (by decide))
                      refine jr_iload rfl rfl ?_
                      refine jr_aload rfl rfl ?_
                      refine jr_getR rfl rfl rfl rfl (Or.inl rfl) ?_
                      refine jr_aload rfl rfl ?_
                      refine jr_getI rfl rfl ?_
                      refine jr_iald (len := 2) rfl rfl hw.1 (by omega) ?_
                      refine jr_imul rfl ?_
                      refine jr_iload rfl rfl ?_
                      refine jr_iadd rfl ?_
                      refine jr_ist4 rfl rfl ?_
                      refine jr_iload rfl rfl ?_
                      refine jr_aload rfl rfl ?_
                      refine jr_getR rfl rfl rfl rfl (Or.inl rfl) ?_
                      refine jr_ic rfl ?_
                      refine jr_iald (len := 337) rfl rfl (show _ = nI 0 from rfl) (by decide) ?_
                      refine jr_icmp_ge rfl (fun m36 => ?_) (fun m36 => ?_)
                      · refine jr_ic rfl ?_
                        refine jr_iret rfl rfl (Nat.zero_le _) (Nat.zero_le _) ?_
                        first
                          | exact ⟨rfl, hRel0⟩
                          | (exfalso; omega)
                          | (exfalso; simp (disch := omega) only [Int32.lt_iff_toInt_lt, Int32.le_iff_toInt_le, ← Int32.toInt_inj, Int32.reduceToInt, nI_toInt] at c1 c4 c1RephasMonth c5RephasMonth m5MDhasMonths m4 m7 m2MDisIn m5MDisIn m36; done)
                          | (exfalso; simp (disch := omega) only [Int32.lt_iff_toInt_lt, Int32.le_iff_toInt_le, ← Int32.toInt_inj, Int32.reduceToInt, nI_toInt] at c1 c4 c1RephasMonth c5RephasMonth m5MDhasMonths m4 m7 m2MDisIn m5MDisIn m36; omega)
                      · refine jr_iload rfl rfl ?_
                        refine jr_ic rfl ?_
                        refine jr_aload rfl rfl ?_
                        refine jr_getR rfl rfl rfl rfl (Or.inl rfl) ?_
                        refine jr_ic rfl ?_
                        refine jr_iload rfl rfl ?_
                        refine jr_iadd rfl ?_
                        first
                          | (exfalso; omega)
                          | (exfalso; simp (disch := omega) only [Int32.lt_iff_toInt_lt, Int32.le_iff_toInt_le, ← Int32.toInt_inj, Int32.reduceToInt, nI_toInt] at c1 c4 c1RephasMonth c5RephasMonth m5MDhasMonths m4 m7 m2MDisIn m5MDisIn m36; done)
                          | (exfalso; simp (disch := omega) only [Int32.lt_iff_toInt_lt, Int32.le_iff_toInt_le, ← Int32.toInt_inj, Int32.reduceToInt, nI_toInt] at c1 c4 c1RephasMonth c5RephasMonth m5MDhasMonths m4 m7 m2MDisIn m5MDisIn m36; omega)
          · refine jr_ic rfl ?_
            refine jr_goto rfl ?_
            refine jr_zret rfl rfl rfl (Nat.zero_le _) (Nat.zero_le _) ?_
            refine jr_if_ne rfl (fun _ => ?_) (fun z => absurd z (by decide))
            refine jr_iload rfl rfl ?_
            refine jr_aload rfl rfl ?_
            refine jr_getM rfl rfl rfl rfl hto ?_
            refine jr_getI rfl rfl ?_
            refine jr_imul rfl ?_
            refine jr_iload rfl rfl ?_
            refine jr_iadd rfl ?_
            refine jr_ist4 rfl rfl ?_
            refine jr_aload rfl rfl ?_
            refine jr_getR rfl rfl rfl rfl (Or.inl rfl) ?_
            refine jr_iload rfl rfl ?_
            refine jr_cv1 (mc' := 0) (ms' := 0) rfl jm_Cal_hadMonth_n jm_Cal_hadMonth_f rfl rfl rfl rfl rfl rfl rfl (Nat.zero_le _) (Nat.zero_le _) ?_
            show jx_W (jm_Cal_hadMonth, _, _, _, _, _, _) _ 0 0 0 [some _, some _] [] _
            refine jr_iload rfl rfl ?_
            refine jr_if_lt rfl (fun c1CalhadMonth => ?_) (fun c1CalhadMonth => ?_)
            · refine jr_ic rfl ?_
              refine jr_zret rfl rfl rfl (Nat.zero_le _) (Nat.zero_le _) ?_
              refine jr_if_eq rfl (fun _ => ?_) (fun z => absurd (by decide) z)
              refine jr_ic rfl ?_
              refine jr_iret rfl rfl (Nat.zero_le _) (Nat.zero_le _) ?_
              show jx_W (jm_MD_number, d + 40, 0, 0, false, 1, _) _ 0 0 0 [some _, some _, some _, some _, none, none, none] [] _
              refine jr_aload rfl rfl ?_
              refine jr_cv0 (mc' := 0) (ms' := 0) rfl jm_MD_hasMonths_n jm_MD_hasMonths_f rfl rfl rfl rfl rfl rfl rfl (Nat.zero_le _) (Nat.zero_le _) ?_
              show jx_W (jm_MD_hasMonths, _, _, _, _, _, _) _ 0 0 0 [some _] [] _
              refine jr_aload rfl rfl ?_
              refine jr_getR rfl rfl rfl rfl (Or.inl rfl) ?_
              refine jr_aload rfl rfl ?_
              refine jr_getI rfl rfl ?_
              refine jr_iald (len := 2) rfl rfl hw.1 (by omega) ?_
              refine jr_if_le rfl (fun m5MDhasMonths => ?_) (fun m5MDhasMonths => ?_)
              · refine jr_ic rfl ?_
                refine jr_zret rfl rfl rfl (Nat.zero_le _) (Nat.zero_le _) ?_
                refine jr_if_eq rfl (fun _ => ?_) (fun z => absurd (by decide) z)
                refine jr_ic rfl ?_
                refine jr_iret rfl rfl (Nat.zero_le _) (Nat.zero_le _) ?_
                first
                  | exact ⟨rfl, hRel0⟩
                  | (exfalso; omega)
                  | (exfalso; simp (disch := omega) only [Int32.lt_iff_toInt_lt, Int32.le_iff_toInt_le, ← Int32.toInt_inj, Int32.reduceToInt, nI_toInt] at c1 c4 c1RephasMonth c5RephasMonth c1CalhadMonth m5MDhasMonths; done)
                  | (exfalso; simp (disch := omega) only [Int32.lt_iff_toInt_lt, Int32.le_iff_toInt_le, ← Int32.toInt_inj, Int32.reduceToInt, nI_toInt] at c1 c4 c1RephasMonth c5RephasMonth c1CalhadMonth m5MDhasMonths; omega)
              · refine jr_ic rfl ?_
                refine jr_goto rfl ?_
                refine jr_zret rfl rfl rfl (Nat.zero_le _) (Nat.zero_le _) ?_
                refine jr_if_eq rfl (fun z => absurd z (by decide)) (fun _ => ?_)
                refine jr_iload rfl rfl ?_
                refine jr_if_lt rfl (fun m4 => ?_) (fun m4 => ?_)
                · refine jr_ic rfl ?_
                  refine jr_iret rfl rfl (Nat.zero_le _) (Nat.zero_le _) ?_
                  first
                    | exact ⟨rfl, hRel0⟩
                    | (exfalso; omega)
                    | (exfalso; simp (disch := omega) only [Int32.lt_iff_toInt_lt, Int32.le_iff_toInt_le, ← Int32.toInt_inj, Int32.reduceToInt, nI_toInt] at c1 c4 c1RephasMonth c5RephasMonth c1CalhadMonth m5MDhasMonths m4; done)
                    | (exfalso; simp (disch := omega) only [Int32.lt_iff_toInt_lt, Int32.le_iff_toInt_le, ← Int32.toInt_inj, Int32.reduceToInt, nI_toInt] at c1 c4 c1RephasMonth c5RephasMonth c1CalhadMonth m5MDhasMonths m4; omega)
                · refine jr_iload rfl rfl ?_
                  refine jr_ic rfl ?_
                  refine jr_icmp_gt rfl (fun m7 => ?_) (fun m7 => ?_)
                  · refine jr_ic rfl ?_
                    refine jr_iret rfl rfl (Nat.zero_le _) (Nat.zero_le _) ?_
                    first
                      | exact ⟨rfl, hRel0⟩
                      | (exfalso; omega)
                      | (exfalso; simp (disch := omega) only [Int32.lt_iff_toInt_lt, Int32.le_iff_toInt_le, ← Int32.toInt_inj, Int32.reduceToInt, nI_toInt] at c1 c4 c1RephasMonth c5RephasMonth c1CalhadMonth m5MDhasMonths m4 m7; done)
                      | (exfalso; simp (disch := omega) only [Int32.lt_iff_toInt_lt, Int32.le_iff_toInt_le, ← Int32.toInt_inj, Int32.reduceToInt, nI_toInt] at c1 c4 c1RephasMonth c5RephasMonth c1CalhadMonth m5MDhasMonths m4 m7; omega)
                  · refine jr_iload rfl rfl ?_
                    refine jr_ic rfl ?_
                    refine jr_aload rfl rfl ?_
                    refine jr_getR rfl rfl rfl rfl (Or.inl rfl) ?_
                    refine jr_aload rfl rfl ?_
                    refine jr_getI rfl rfl ?_
                    refine jr_iald (len := 2) rfl rfl hw.1 (by omega) ?_
                    refine jr_ic rfl ?_
                    refine jr_isub rfl ?_
                    refine jr_cs3 (mc' := 0) (ms' := 0) rfl jm_MD_isIn_n jm_MD_isIn_f rfl rfl rfl rfl rfl (Nat.zero_le _) (Nat.zero_le _) ?_
                    show jx_W (jm_MD_isIn, _, _, _, _, _, _) _ 0 0 0 [some _, some _, some _] [] _
                    refine jr_iload rfl rfl ?_
                    refine jr_iload rfl rfl ?_
                    refine jr_icmp_lt rfl (fun m2MDisIn => ?_) (fun m2MDisIn => ?_)
                    · refine jr_ic rfl ?_
                      refine jr_zret rfl rfl rfl (Nat.zero_le _) (Nat.zero_le _) ?_
                      refine jr_if_ne rfl (fun z => absurd (by decide) z) (fun _ => ?_)
                      refine jr_ic rfl ?_
                      refine jr_iret rfl rfl (Nat.zero_le _) (Nat.zero_le _) ?_
                      first
                        | exact ⟨rfl, hRel0⟩
                        | (exfalso; omega)
                        | (exfalso; simp (disch := omega) only [Int32.lt_iff_toInt_lt, Int32.le_iff_toInt_le, ← Int32.toInt_inj, Int32.reduceToInt, nI_toInt] at c1 c4 c1RephasMonth c5RephasMonth c1CalhadMonth m5MDhasMonths m4 m7 m2MDisIn; done)
                        | (exfalso; simp (disch := omega) only [Int32.lt_iff_toInt_lt, Int32.le_iff_toInt_le, ← Int32.toInt_inj, Int32.reduceToInt, nI_toInt] at c1 c4 c1RephasMonth c5RephasMonth c1CalhadMonth m5MDhasMonths m4 m7 m2MDisIn; omega)
                    · refine jr_iload rfl rfl ?_
                      refine jr_iload rfl rfl ?_
                      refine jr_icmp_gt rfl (fun m5MDisIn => ?_) (fun m5MDisIn => ?_)
                      · refine jr_ic rfl ?_
                        refine jr_zret rfl rfl rfl (Nat.zero_le _) (Nat.zero_le _) ?_
                        refine jr_if_ne rfl (fun z => absurd (by decide) z) (fun _ => ?_)
                        refine jr_ic rfl ?_
                        refine jr_iret rfl rfl (Nat.zero_le _) (Nat.zero_le _) ?_
                        first
                          | exact ⟨rfl, hRel0⟩
                          | (exfalso; omega)
                          | (exfalso; simp (disch := omega) only [Int32.lt_iff_toInt_lt, Int32.le_iff_toInt_le, ← Int32.toInt_inj, Int32.reduceToInt, nI_toInt] at c1 c4 c1RephasMonth c5RephasMonth c1CalhadMonth m5MDhasMonths m4 m7 m2MDisIn m5MDisIn; done)
                          | (exfalso; simp (disch := omega) only [Int32.lt_iff_toInt_lt, Int32.le_iff_toInt_le, ← Int32.toInt_inj, Int32.reduceToInt, nI_toInt] at c1 c4 c1RephasMonth c5RephasMonth c1CalhadMonth m5MDhasMonths m4 m7 m2MDisIn m5MDisIn; omega)
                      · refine jr_ic rfl ?_
                        refine jr_goto rfl ?_
                        refine jr_zret rfl rfl rfl (Nat.zero_le _) (Nat.zero_le _) ?_
                        refine jr_if_ne rfl (fun _ => ?_) (fun z => absurd z (by decide))
                        refine jr_iload rfl rfl ?_
                        refine jr_aload rfl rfl ?_
                        refine jr_getR rfl rfl rfl rfl (Or.inl rfl) ?_
                        refine jr_aload rfl rfl ?_
                        refine jr_getI rfl rfl ?_
                        refine jr_iald (len := 2) rfl rfl hw.1 (by omega) ?_
                        refine jr_imul rfl ?_
                        refine jr_iload rfl rfl ?_
                        refine jr_iadd rfl ?_
                        refine jr_ist4 rfl rfl ?_
                        refine jr_iload rfl rfl ?_
                        refine jr_aload rfl rfl ?_
                        refine jr_getR rfl rfl rfl rfl (Or.inl rfl) ?_
                        refine jr_ic rfl ?_
                        refine jr_iald (len := 337) rfl rfl (show _ = nI 0 from rfl) (by decide) ?_
                        refine jr_icmp_ge rfl (fun m36 => ?_) (fun m36 => ?_)
                        · refine jr_ic rfl ?_
                          refine jr_iret rfl rfl (Nat.zero_le _) (Nat.zero_le _) ?_
                          first
                            | exact ⟨rfl, hRel0⟩
                            | (exfalso; omega)
                            | (exfalso; simp (disch := omega) only [Int32.lt_iff_toInt_lt, Int32.le_iff_toInt_le, ← Int32.toInt_inj, Int32.reduceToInt, nI_toInt] at c1 c4 c1RephasMonth c5RephasMonth c1CalhadMonth m5MDhasMonths m4 m7 m2MDisIn m5MDisIn m36; done)
                            | (exfalso; simp (disch := omega) only [Int32.lt_iff_toInt_lt, Int32.le_iff_toInt_le, ← Int32.toInt_inj, Int32.reduceToInt, nI_toInt] at c1 c4 c1RephasMonth c5RephasMonth c1CalhadMonth m5MDhasMonths m4 m7 m2MDisIn m5MDisIn m36; omega)
                        · refine jr_iload rfl rfl ?_
                          refine jr_ic rfl ?_
                          refine jr_aload rfl rfl ?_
                          refine jr_getR rfl rfl rfl rfl (Or.inl rfl) ?_
                          refine jr_ic rfl ?_
                          refine jr_iload rfl rfl ?_
                          refine jr_iadd rfl ?_
                          first
                            | (exfalso; omega)
                            | (exfalso; simp (disch := omega) only [Int32.lt_iff_toInt_lt, Int32.le_iff_toInt_le, ← Int32.toInt_inj, Int32.reduceToInt, nI_toInt] at c1 c4 c1RephasMonth c5RephasMonth c1CalhadMonth m5MDhasMonths m4 m7 m2MDisIn m5MDisIn m36; done)
                            | (exfalso; simp (disch := omega) only [Int32.lt_iff_toInt_lt, Int32.le_iff_toInt_le, ← Int32.toInt_inj, Int32.reduceToInt, nI_toInt] at c1 c4 c1RephasMonth c5RephasMonth c1CalhadMonth m5MDhasMonths m4 m7 m2MDisIn m5MDisIn m36; omega)
            · refine jr_iload rfl rfl ?_
              refine jr_aload rfl rfl ?_
              refine jr_getI rfl rfl ?_
              refine jr_icmp_ge rfl (fun c5CalhadMonth => ?_) (fun c5CalhadMonth => ?_)
              · refine jr_ic rfl ?_
                refine jr_zret rfl rfl rfl (Nat.zero_le _) (Nat.zero_le _) ?_
                refine jr_if_eq rfl (fun _ => ?_) (fun z => absurd (by decide) z)
                refine jr_ic rfl ?_
                refine jr_iret rfl rfl (Nat.zero_le _) (Nat.zero_le _) ?_
                show jx_W (jm_MD_number, d + 40, 0, 0, false, 1, _) _ 0 0 0 [some _, some _, some _, some _, none, none, none] [] _
                refine jr_aload rfl rfl ?_
                refine jr_cv0 (mc' := 0) (ms' := 0) rfl jm_MD_hasMonths_n jm_MD_hasMonths_f rfl rfl rfl rfl rfl rfl rfl (Nat.zero_le _) (Nat.zero_le _) ?_
                show jx_W (jm_MD_hasMonths, _, _, _, _, _, _) _ 0 0 0 [some _] [] _
                refine jr_aload rfl rfl ?_
                refine jr_getR rfl rfl rfl rfl (Or.inl rfl) ?_
                refine jr_aload rfl rfl ?_
                refine jr_getI rfl rfl ?_
                refine jr_iald (len := 2) rfl rfl hw.1 (by omega) ?_
                refine jr_if_le rfl (fun m5MDhasMonths => ?_) (fun m5MDhasMonths => ?_)
                · refine jr_ic rfl ?_
                  refine jr_zret rfl rfl rfl (Nat.zero_le _) (Nat.zero_le _) ?_
                  refine jr_if_eq rfl (fun _ => ?_) (fun z => absurd (by decide) z)
                  refine jr_ic rfl ?_
                  refine jr_iret rfl rfl (Nat.zero_le _) (Nat.zero_le _) ?_
                  first
                    | exact ⟨rfl, hRel0⟩
                    | (exfalso; omega)
                    | (exfalso; simp (disch := omega) only [Int32.lt_iff_toInt_lt, Int32.le_iff_toInt_le, ← Int32.toInt_inj, Int32.reduceToInt, nI_toInt] at c1 c4 c1RephasMonth c5RephasMonth c1CalhadMonth c5CalhadMonth m5MDhasMonths; done)
                    | (exfalso; simp (disch := omega) only [Int32.lt_iff_toInt_lt, Int32.le_iff_toInt_le, ← Int32.toInt_inj, Int32.reduceToInt, nI_toInt] at c1 c4 c1RephasMonth c5RephasMonth c1CalhadMonth c5CalhadMonth m5MDhasMonths; omega)
                · refine jr_ic rfl ?_
                  refine jr_goto rfl ?_
                  refine jr_zret rfl rfl rfl (Nat.zero_le _) (Nat.zero_le _) ?_
                  refine jr_if_eq rfl (fun z => absurd z (by decide)) (fun _ => ?_)
                  refine jr_iload rfl rfl ?_
                  refine jr_if_lt rfl (fun m4 => ?_) (fun m4 => ?_)
                  · refine jr_ic rfl ?_
                    refine jr_iret rfl rfl (Nat.zero_le _) (Nat.zero_le _) ?_
                    first
                      | exact ⟨rfl, hRel0⟩
                      | (exfalso; omega)
                      | (exfalso; simp (disch := omega) only [Int32.lt_iff_toInt_lt, Int32.le_iff_toInt_le, ← Int32.toInt_inj, Int32.reduceToInt, nI_toInt] at c1 c4 c1RephasMonth c5RephasMonth c1CalhadMonth c5CalhadMonth m5MDhasMonths m4; done)
                      | (exfalso; simp (disch := omega) only [Int32.lt_iff_toInt_lt, Int32.le_iff_toInt_le, ← Int32.toInt_inj, Int32.reduceToInt, nI_toInt] at c1 c4 c1RephasMonth c5RephasMonth c1CalhadMonth c5CalhadMonth m5MDhasMonths m4; omega)
                  · refine jr_iload rfl rfl ?_
                    refine jr_ic rfl ?_
                    refine jr_icmp_gt rfl (fun m7 => ?_) (fun m7 => ?_)
                    · refine jr_ic rfl ?_
                      refine jr_iret rfl rfl (Nat.zero_le _) (Nat.zero_le _) ?_
                      first
                        | exact ⟨rfl, hRel0⟩
                        | (exfalso; omega)
                        | (exfalso; simp (disch := omega) only [Int32.lt_iff_toInt_lt, Int32.le_iff_toInt_le, ← Int32.toInt_inj, Int32.reduceToInt, nI_toInt] at c1 c4 c1RephasMonth c5RephasMonth c1CalhadMonth c5CalhadMonth m5MDhasMonths m4 m7; done)
                        | (exfalso; simp (disch := omega) only [Int32.lt_iff_toInt_lt, Int32.le_iff_toInt_le, ← Int32.toInt_inj, Int32.reduceToInt, nI_toInt] at c1 c4 c1RephasMonth c5RephasMonth c1CalhadMonth c5CalhadMonth m5MDhasMonths m4 m7; omega)
                    · refine jr_iload rfl rfl ?_
                      refine jr_ic rfl ?_
                      refine jr_aload rfl rfl ?_
                      refine jr_getR rfl rfl rfl rfl (Or.inl rfl) ?_
                      refine jr_aload rfl rfl ?_
                      refine jr_getI rfl rfl ?_
                      refine jr_iald (len := 2) rfl rfl hw.1 (by omega) ?_
                      refine jr_ic rfl ?_
                      refine jr_isub rfl ?_
                      refine jr_cs3 (mc' := 0) (ms' := 0) rfl jm_MD_isIn_n jm_MD_isIn_f rfl rfl rfl rfl rfl (Nat.zero_le _) (Nat.zero_le _) ?_
                      show jx_W (jm_MD_isIn, _, _, _, _, _, _) _ 0 0 0 [some _, some _, some _] [] _
                      refine jr_iload rfl rfl ?_
                      refine jr_iload rfl rfl ?_
                      refine jr_icmp_lt rfl (fun m2MDisIn => ?_) (fun m2MDisIn => ?_)
                      · refine jr_ic rfl ?_
                        refine jr_zret rfl rfl rfl (Nat.zero_le _) (Nat.zero_le _) ?_
                        refine jr_if_ne rfl (fun z => absurd (by decide) z) (fun _ => ?_)
                        refine jr_ic rfl ?_
                        refine jr_iret rfl rfl (Nat.zero_le _) (Nat.zero_le _) ?_
                        first
                          | exact ⟨rfl, hRel0⟩
                          | (exfalso; omega)
                          | (exfalso; simp (disch := omega) only [Int32.lt_iff_toInt_lt, Int32.le_iff_toInt_le, ← Int32.toInt_inj, Int32.reduceToInt, nI_toInt] at c1 c4 c1RephasMonth c5RephasMonth c1CalhadMonth c5CalhadMonth m5MDhasMonths m4 m7 m2MDisIn; done)
                          | (exfalso; simp (disch := omega) only [Int32.lt_iff_toInt_lt, Int32.le_iff_toInt_le, ← Int32.toInt_inj, Int32.reduceToInt, nI_toInt] at c1 c4 c1RephasMonth c5RephasMonth c1CalhadMonth c5CalhadMonth m5MDhasMonths m4 m7 m2MDisIn; omega)
                      · refine jr_iload rfl rfl ?_
                        refine jr_iload rfl rfl ?_
                        refine jr_icmp_gt rfl (fun m5MDisIn => ?_) (fun m5MDisIn => ?_)
                        · refine jr_ic rfl ?_
                          refine jr_zret rfl rfl rfl (Nat.zero_le _) (Nat.zero_le _) ?_
                          refine jr_if_ne rfl (fun z => absurd (by decide) z) (fun _ => ?_)
                          refine jr_ic rfl ?_
                          refine jr_iret rfl rfl (Nat.zero_le _) (Nat.zero_le _) ?_
                          first
                            | exact ⟨rfl, hRel0⟩
                            | (exfalso; omega)
                            | (exfalso; simp (disch := omega) only [Int32.lt_iff_toInt_lt, Int32.le_iff_toInt_le, ← Int32.toInt_inj, Int32.reduceToInt, nI_toInt] at c1 c4 c1RephasMonth c5RephasMonth c1CalhadMonth c5CalhadMonth m5MDhasMonths m4 m7 m2MDisIn m5MDisIn; done)
                            | (exfalso; simp (disch := omega) only [Int32.lt_iff_toInt_lt, Int32.le_iff_toInt_le, ← Int32.toInt_inj, Int32.reduceToInt, nI_toInt] at c1 c4 c1RephasMonth c5RephasMonth c1CalhadMonth c5CalhadMonth m5MDhasMonths m4 m7 m2MDisIn m5MDisIn; omega)
                        · refine jr_ic rfl ?_
                          refine jr_goto rfl ?_
                          refine jr_zret rfl rfl rfl (Nat.zero_le _) (Nat.zero_le _) ?_
                          refine jr_if_ne rfl (fun _ => ?_) (fun z => absurd z (by decide))
                          refine jr_iload rfl rfl ?_
                          refine jr_aload rfl rfl ?_
                          refine jr_getR rfl rfl rfl rfl (Or.inl rfl) ?_
                          refine jr_aload rfl rfl ?_
                          refine jr_getI rfl rfl ?_
                          refine jr_iald (len := 2) rfl rfl hw.1 (by omega) ?_
                          refine jr_imul rfl ?_
                          refine jr_iload rfl rfl ?_
                          refine jr_iadd rfl ?_
                          refine jr_ist4 rfl rfl ?_
                          refine jr_iload rfl rfl ?_
                          refine jr_aload rfl rfl ?_
                          refine jr_getR rfl rfl rfl rfl (Or.inl rfl) ?_
                          refine jr_ic rfl ?_
                          refine jr_iald (len := 337) rfl rfl (show _ = nI 0 from rfl) (by decide) ?_
                          refine jr_icmp_ge rfl (fun m36 => ?_) (fun m36 => ?_)
                          · refine jr_ic rfl ?_
                            refine jr_iret rfl rfl (Nat.zero_le _) (Nat.zero_le _) ?_
                            first
                              | exact ⟨rfl, hRel0⟩
                              | (exfalso; omega)
                              | (exfalso; simp (disch := omega) only [Int32.lt_iff_toInt_lt, Int32.le_iff_toInt_le, ← Int32.toInt_inj, Int32.reduceToInt, nI_toInt] at c1 c4 c1RephasMonth c5RephasMonth c1CalhadMonth c5CalhadMonth m5MDhasMonths m4 m7 m2MDisIn m5MDisIn m36; done)
                              | (exfalso; simp (disch := omega) only [Int32.lt_iff_toInt_lt, Int32.le_iff_toInt_le, ← Int32.toInt_inj, Int32.reduceToInt, nI_toInt] at c1 c4 c1RephasMonth c5RephasMonth c1CalhadMonth c5CalhadMonth m5MDhasMonths m4 m7 m2MDisIn m5MDisIn m36; omega)
                          · refine jr_iload rfl rfl ?_
                            refine jr_ic rfl ?_
                            refine jr_aload rfl rfl ?_
                            refine jr_getR rfl rfl rfl rfl (Or.inl rfl) ?_
                            refine jr_ic rfl ?_
                            refine jr_iload rfl rfl ?_
                            refine jr_iadd rfl ?_
                            first
                              | (exfalso; omega)
                              | (exfalso; simp (disch := omega) only [Int32.lt_iff_toInt_lt, Int32.le_iff_toInt_le, ← Int32.toInt_inj, Int32.reduceToInt, nI_toInt] at c1 c4 c1RephasMonth c5RephasMonth c1CalhadMonth c5CalhadMonth m5MDhasMonths m4 m7 m2MDisIn m5MDisIn m36; done)
                              | (exfalso; simp (disch := omega) only [Int32.lt_iff_toInt_lt, Int32.le_iff_toInt_le, ← Int32.toInt_inj, Int32.reduceToInt, nI_toInt] at c1 c4 c1RephasMonth c5RephasMonth c1CalhadMonth c5CalhadMonth m5MDhasMonths m4 m7 m2MDisIn m5MDisIn m36; omega)
              · refine jr_iload rfl rfl ?_
                refine jr_aload rfl rfl ?_
                refine jr_getR rfl rfl rfl rfl (Or.inl rfl) ?_
                refine jr_alen (so := 1) (len := 512) rfl rfl rfl rfl ?_
                refine jr_icmp_ge rfl (fun c10CalhadMonth => ?_) (fun c10CalhadMonth => ?_)
                · refine jr_ic rfl ?_
                  refine jr_zret rfl rfl rfl (Nat.zero_le _) (Nat.zero_le _) ?_
                  refine jr_if_eq rfl (fun _ => ?_) (fun z => absurd (by decide) z)
                  refine jr_ic rfl ?_
                  refine jr_iret rfl rfl (Nat.zero_le _) (Nat.zero_le _) ?_
                  show jx_W (jm_MD_number, d + 40, 0, 0, false, 1, _) _ 0 0 0 [some _, some _, some _, some _, none, none, none] [] _
                  refine jr_aload rfl rfl ?_
                  refine jr_cv0 (mc' := 0) (ms' := 0) rfl jm_MD_hasMonths_n jm_MD_hasMonths_f rfl rfl rfl rfl rfl rfl rfl (Nat.zero_le _) (Nat.zero_le _) ?_
                  show jx_W (jm_MD_hasMonths, _, _, _, _, _, _) _ 0 0 0 [some _] [] _
                  refine jr_aload rfl rfl ?_
                  refine jr_getR rfl rfl rfl rfl (Or.inl rfl) ?_
                  refine jr_aload rfl rfl ?_
                  refine jr_getI rfl rfl ?_
                  refine jr_iald (len := 2) rfl rfl hw.1 (by omega) ?_
                  refine jr_if_le rfl (fun m5MDhasMonths => ?_) (fun m5MDhasMonths => ?_)
                  · refine jr_ic rfl ?_
                    refine jr_zret rfl rfl rfl (Nat.zero_le _) (Nat.zero_le _) ?_
                    refine jr_if_eq rfl (fun _ => ?_) (fun z => absurd (by decide) z)
                    refine jr_ic rfl ?_
                    refine jr_iret rfl rfl (Nat.zero_le _) (Nat.zero_le _) ?_
                    first
                      | exact ⟨rfl, hRel0⟩
                      | (exfalso; omega)
                      | (exfalso; simp (disch := omega) only [Int32.lt_iff_toInt_lt, Int32.le_iff_toInt_le, ← Int32.toInt_inj, Int32.reduceToInt, nI_toInt] at c1 c4 c1RephasMonth c5RephasMonth c1CalhadMonth c5CalhadMonth c10CalhadMonth m5MDhasMonths; done)
                      | (exfalso; simp (disch := omega) only [Int32.lt_iff_toInt_lt, Int32.le_iff_toInt_le, ← Int32.toInt_inj, Int32.reduceToInt, nI_toInt] at c1 c4 c1RephasMonth c5RephasMonth c1CalhadMonth c5CalhadMonth c10CalhadMonth m5MDhasMonths; omega)
                  · refine jr_ic rfl ?_
                    refine jr_goto rfl ?_
                    refine jr_zret rfl rfl rfl (Nat.zero_le _) (Nat.zero_le _) ?_
                    refine jr_if_eq rfl (fun z => absurd z (by decide)) (fun _ => ?_)
                    refine jr_iload rfl rfl ?_
                    refine jr_if_lt rfl (fun m4 => ?_) (fun m4 => ?_)
                    · refine jr_ic rfl ?_
                      refine jr_iret rfl rfl (Nat.zero_le _) (Nat.zero_le _) ?_
                      first
                        | exact ⟨rfl, hRel0⟩
                        | (exfalso; omega)
                        | (exfalso; simp (disch := omega) only [Int32.lt_iff_toInt_lt, Int32.le_iff_toInt_le, ← Int32.toInt_inj, Int32.reduceToInt, nI_toInt] at c1 c4 c1RephasMonth c5RephasMonth c1CalhadMonth c5CalhadMonth c10CalhadMonth m5MDhasMonths m4; done)
                        | (exfalso; simp (disch := omega) only [Int32.lt_iff_toInt_lt, Int32.le_iff_toInt_le, ← Int32.toInt_inj, Int32.reduceToInt, nI_toInt] at c1 c4 c1RephasMonth c5RephasMonth c1CalhadMonth c5CalhadMonth c10CalhadMonth m5MDhasMonths m4; omega)
                    · refine jr_iload rfl rfl ?_
                      refine jr_ic rfl ?_
                      refine jr_icmp_gt rfl (fun m7 => ?_) (fun m7 => ?_)
                      · refine jr_ic rfl ?_
                        refine jr_iret rfl rfl (Nat.zero_le _) (Nat.zero_le _) ?_
                        first
                          | exact ⟨rfl, hRel0⟩
                          | (exfalso; omega)
                          | (exfalso; simp (disch := omega) only [Int32.lt_iff_toInt_lt, Int32.le_iff_toInt_le, ← Int32.toInt_inj, Int32.reduceToInt, nI_toInt] at c1 c4 c1RephasMonth c5RephasMonth c1CalhadMonth c5CalhadMonth c10CalhadMonth m5MDhasMonths m4 m7; done)
                          | (exfalso; simp (disch := omega) only [Int32.lt_iff_toInt_lt, Int32.le_iff_toInt_le, ← Int32.toInt_inj, Int32.reduceToInt, nI_toInt] at c1 c4 c1RephasMonth c5RephasMonth c1CalhadMonth c5CalhadMonth c10CalhadMonth m5MDhasMonths m4 m7; omega)
                      · refine jr_iload rfl rfl ?_
                        refine jr_ic rfl ?_
                        refine jr_aload rfl rfl ?_
                        refine jr_getR rfl rfl rfl rfl (Or.inl rfl) ?_
                        refine jr_aload rfl rfl ?_
                        refine jr_getI rfl rfl ?_
                        refine jr_iald (len := 2) rfl rfl hw.1 (by omega) ?_
                        refine jr_ic rfl ?_
                        refine jr_isub rfl ?_
                        refine jr_cs3 (mc' := 0) (ms' := 0) rfl jm_MD_isIn_n jm_MD_isIn_f rfl rfl rfl rfl rfl (Nat.zero_le _) (Nat.zero_le _) ?_
                        show jx_W (jm_MD_isIn, _, _, _, _, _, _) _ 0 0 0 [some _, some _, some _] [] _
                        refine jr_iload rfl rfl ?_
                        refine jr_iload rfl rfl ?_
                        refine jr_icmp_lt rfl (fun m2MDisIn => ?_) (fun m2MDisIn => ?_)
                        · refine jr_ic rfl ?_
                          refine jr_zret rfl rfl rfl (Nat.zero_le _) (Nat.zero_le _) ?_
                          refine jr_if_ne rfl (fun z => absurd (by decide) z) (fun _ => ?_)
                          refine jr_ic rfl ?_
                          refine jr_iret rfl rfl (Nat.zero_le _) (Nat.zero_le _) ?_
                          first
                            | exact ⟨rfl, hRel0⟩
                            | (exfalso; omega)
                            | (exfalso; simp (disch := omega) only [Int32.lt_iff_toInt_lt, Int32.le_iff_toInt_le, ← Int32.toInt_inj, Int32.reduceToInt, nI_toInt] at c1 c4 c1RephasMonth c5RephasMonth c1CalhadMonth c5CalhadMonth c10CalhadMonth m5MDhasMonths m4 m7 m2MDisIn; done)
                            | (exfalso; simp (disch := omega) only [Int32.lt_iff_toInt_lt, Int32.le_iff_toInt_le, ← Int32.toInt_inj, Int32.reduceToInt, nI_toInt] at c1 c4 c1RephasMonth c5RephasMonth c1CalhadMonth c5CalhadMonth c10CalhadMonth m5MDhasMonths m4 m7 m2MDisIn; omega)
                        · refine jr_iload rfl rfl ?_
                          refine jr_iload rfl rfl ?_
                          refine jr_icmp_gt rfl (fun m5MDisIn => ?_) (fun m5MDisIn => ?_)
                          · refine jr_ic rfl ?_
                            refine jr_zret rfl rfl rfl (Nat.zero_le _) (Nat.zero_le _) ?_
                            refine jr_if_ne rfl (fun z => absurd (by decide) z) (fun _ => ?_)
                            refine jr_ic rfl ?_
                            refine jr_iret rfl rfl (Nat.zero_le _) (Nat.zero_le _) ?_
                            first
                              | exact ⟨rfl, hRel0⟩
                              | (exfalso; omega)
                              | (exfalso; simp (disch := omega) only [Int32.lt_iff_toInt_lt, Int32.le_iff_toInt_le, ← Int32.toInt_inj, Int32.reduceToInt, nI_toInt] at c1 c4 c1RephasMonth c5RephasMonth c1CalhadMonth c5CalhadMonth c10CalhadMonth m5MDhasMonths m4 m7 m2MDisIn m5MDisIn; done)
                              | (exfalso; simp (disch := omega) only [Int32.lt_iff_toInt_lt, Int32.le_iff_toInt_le, ← Int32.toInt_inj, Int32.reduceToInt, nI_toInt] at c1 c4 c1RephasMonth c5RephasMonth c1CalhadMonth c5CalhadMonth c10CalhadMonth m5MDhasMonths m4 m7 m2MDisIn m5MDisIn; omega)
                          · refine jr_ic rfl ?_
                            refine jr_goto rfl ?_
                            refine jr_zret rfl rfl rfl (Nat.zero_le _) (Nat.zero_le _) ?_
                            refine jr_if_ne rfl (fun _ => ?_) (fun z => absurd z (by decide))
                            refine jr_iload rfl rfl ?_
                            refine jr_aload rfl rfl ?_
                            refine jr_getR rfl rfl rfl rfl (Or.inl rfl) ?_
                            refine jr_aload rfl rfl ?_
                            refine jr_getI rfl rfl ?_
                            refine jr_iald (len := 2) rfl rfl hw.1 (by omega) ?_
                            refine jr_imul rfl ?_
                            refine jr_iload rfl rfl ?_
                            refine jr_iadd rfl ?_
                            refine jr_ist4 rfl rfl ?_
                            refine jr_iload rfl rfl ?_
                            refine jr_aload rfl rfl ?_
                            refine jr_getR rfl rfl rfl rfl (Or.inl rfl) ?_
                            refine jr_ic rfl ?_
                            refine jr_iald (len := 337) rfl rfl (show _ = nI 0 from rfl) (by decide) ?_
                            refine jr_icmp_ge rfl (fun m36 => ?_) (fun m36 => ?_)
                            · refine jr_ic rfl ?_
                              refine jr_iret rfl rfl (Nat.zero_le _) (Nat.zero_le _) ?_
                              first
                                | exact ⟨rfl, hRel0⟩
                                | (exfalso; omega)
                                | (exfalso; simp (disch := omega) only [Int32.lt_iff_toInt_lt, Int32.le_iff_toInt_le, ← Int32.toInt_inj, Int32.reduceToInt, nI_toInt] at c1 c4 c1RephasMonth c5RephasMonth c1CalhadMonth c5CalhadMonth c10CalhadMonth m5MDhasMonths m4 m7 m2MDisIn m5MDisIn m36; done)
                                | (exfalso; simp (disch := omega) only [Int32.lt_iff_toInt_lt, Int32.le_iff_toInt_le, ← Int32.toInt_inj, Int32.reduceToInt, nI_toInt] at c1 c4 c1RephasMonth c5RephasMonth c1CalhadMonth c5CalhadMonth c10CalhadMonth m5MDhasMonths m4 m7 m2MDisIn m5MDisIn m36; omega)
                            · refine jr_iload rfl rfl ?_
                              refine jr_ic rfl ?_
                              refine jr_aload rfl rfl ?_
                              refine jr_getR rfl rfl rfl rfl (Or.inl rfl) ?_
                              refine jr_ic rfl ?_
                              refine jr_iload rfl rfl ?_
                              refine jr_iadd rfl ?_
                              first
                                | (exfalso; omega)
                                | (exfalso; simp (disch := omega) only [Int32.lt_iff_toInt_lt, Int32.le_iff_toInt_le, ← Int32.toInt_inj, Int32.reduceToInt, nI_toInt] at c1 c4 c1RephasMonth c5RephasMonth c1CalhadMonth c5CalhadMonth c10CalhadMonth m5MDhasMonths m4 m7 m2MDisIn m5MDisIn m36; done)
                                | (exfalso; simp (disch := omega) only [Int32.lt_iff_toInt_lt, Int32.le_iff_toInt_le, ← Int32.toInt_inj, Int32.reduceToInt, nI_toInt] at c1 c4 c1RephasMonth c5RephasMonth c1CalhadMonth c5CalhadMonth c10CalhadMonth m5MDhasMonths m4 m7 m2MDisIn m5MDisIn m36; omega)
                · refine jr_ic rfl ?_
                  refine jr_goto rfl ?_
                  refine jr_zret rfl rfl rfl (Nat.zero_le _) (Nat.zero_le _) ?_
                  refine jr_if_eq rfl (fun z => absurd z (by decide)) (fun _ => ?_)
                  refine jr_iload rfl rfl ?_
                  refine jr_ic rfl ?_
                  refine jr_icmp_lt rfl (fun c27 => ?_) (fun c27 => ?_)
                  · refine jr_ic rfl ?_
                    refine jr_iret rfl rfl (Nat.zero_le _) (Nat.zero_le _) ?_
                    show jx_W (jm_MD_number, d + 40, 0, 0, false, 1, _) _ 0 0 0 [some _, some _, some _, some _, none, none, none] [] _
                    refine jr_aload rfl rfl ?_
                    refine jr_cv0 (mc' := 0) (ms' := 0) rfl jm_MD_hasMonths_n jm_MD_hasMonths_f rfl rfl rfl rfl rfl rfl rfl (Nat.zero_le _) (Nat.zero_le _) ?_
                    show jx_W (jm_MD_hasMonths, _, _, _, _, _, _) _ 0 0 0 [some _] [] _
                    refine jr_aload rfl rfl ?_
                    refine jr_getR rfl rfl rfl rfl (Or.inl rfl) ?_
                    refine jr_aload rfl rfl ?_
                    refine jr_getI rfl rfl ?_
                    refine jr_iald (len := 2) rfl rfl hw.1 (by omega) ?_
                    refine jr_if_le rfl (fun m5MDhasMonths => ?_) (fun m5MDhasMonths => ?_)
                    · refine jr_ic rfl ?_
                      refine jr_zret rfl rfl rfl (Nat.zero_le _) (Nat.zero_le _) ?_
                      refine jr_if_eq rfl (fun _ => ?_) (fun z => absurd (by decide) z)
                      refine jr_ic rfl ?_
                      refine jr_iret rfl rfl (Nat.zero_le _) (Nat.zero_le _) ?_
                      first
                        | exact ⟨rfl, hRel0⟩
                        | (exfalso; omega)
                        | (exfalso; simp (disch := omega) only [Int32.lt_iff_toInt_lt, Int32.le_iff_toInt_le, ← Int32.toInt_inj, Int32.reduceToInt, nI_toInt] at c1 c4 c1RephasMonth c5RephasMonth c1CalhadMonth c5CalhadMonth c10CalhadMonth c27 m5MDhasMonths; done)
                        | (exfalso; simp (disch := omega) only [Int32.lt_iff_toInt_lt, Int32.le_iff_toInt_le, ← Int32.toInt_inj, Int32.reduceToInt, nI_toInt] at c1 c4 c1RephasMonth c5RephasMonth c1CalhadMonth c5CalhadMonth c10CalhadMonth c27 m5MDhasMonths; omega)
                    · refine jr_ic rfl ?_
                      refine jr_goto rfl ?_
                      refine jr_zret rfl rfl rfl (Nat.zero_le _) (Nat.zero_le _) ?_
                      refine jr_if_eq rfl (fun z => absurd z (by decide)) (fun _ => ?_)
                      refine jr_iload rfl rfl ?_
                      refine jr_if_lt rfl (fun m4 => ?_) (fun m4 => ?_)
                      · refine jr_ic rfl ?_
                        refine jr_iret rfl rfl (Nat.zero_le _) (Nat.zero_le _) ?_
                        first
                          | exact ⟨rfl, hRel0⟩
                          | (exfalso; omega)
                          | (exfalso; simp (disch := omega) only [Int32.lt_iff_toInt_lt, Int32.le_iff_toInt_le, ← Int32.toInt_inj, Int32.reduceToInt, nI_toInt] at c1 c4 c1RephasMonth c5RephasMonth c1CalhadMonth c5CalhadMonth c10CalhadMonth c27 m5MDhasMonths m4; done)
                          | (exfalso; simp (disch := omega) only [Int32.lt_iff_toInt_lt, Int32.le_iff_toInt_le, ← Int32.toInt_inj, Int32.reduceToInt, nI_toInt] at c1 c4 c1RephasMonth c5RephasMonth c1CalhadMonth c5CalhadMonth c10CalhadMonth c27 m5MDhasMonths m4; omega)
                      · refine jr_iload rfl rfl ?_
                        refine jr_ic rfl ?_
                        refine jr_icmp_gt rfl (fun m7 => ?_) (fun m7 => ?_)
                        · refine jr_ic rfl ?_
                          refine jr_iret rfl rfl (Nat.zero_le _) (Nat.zero_le _) ?_
                          first
                            | exact ⟨rfl, hRel0⟩
                            | (exfalso; omega)
                            | (exfalso; simp (disch := omega) only [Int32.lt_iff_toInt_lt, Int32.le_iff_toInt_le, ← Int32.toInt_inj, Int32.reduceToInt, nI_toInt] at c1 c4 c1RephasMonth c5RephasMonth c1CalhadMonth c5CalhadMonth c10CalhadMonth c27 m5MDhasMonths m4 m7; done)
                            | (exfalso; simp (disch := omega) only [Int32.lt_iff_toInt_lt, Int32.le_iff_toInt_le, ← Int32.toInt_inj, Int32.reduceToInt, nI_toInt] at c1 c4 c1RephasMonth c5RephasMonth c1CalhadMonth c5CalhadMonth c10CalhadMonth c27 m5MDhasMonths m4 m7; omega)
                        · refine jr_iload rfl rfl ?_
                          refine jr_ic rfl ?_
                          refine jr_aload rfl rfl ?_
                          refine jr_getR rfl rfl rfl rfl (Or.inl rfl) ?_
                          refine jr_aload rfl rfl ?_
                          refine jr_getI rfl rfl ?_
                          refine jr_iald (len := 2) rfl rfl hw.1 (by omega) ?_
                          refine jr_ic rfl ?_
                          refine jr_isub rfl ?_
                          refine jr_cs3 (mc' := 0) (ms' := 0) rfl jm_MD_isIn_n jm_MD_isIn_f rfl rfl rfl rfl rfl (Nat.zero_le _) (Nat.zero_le _) ?_
                          show jx_W (jm_MD_isIn, _, _, _, _, _, _) _ 0 0 0 [some _, some _, some _] [] _
                          refine jr_iload rfl rfl ?_
                          refine jr_iload rfl rfl ?_
                          refine jr_icmp_lt rfl (fun m2MDisIn => ?_) (fun m2MDisIn => ?_)
                          · refine jr_ic rfl ?_
                            refine jr_zret rfl rfl rfl (Nat.zero_le _) (Nat.zero_le _) ?_
                            refine jr_if_ne rfl (fun z => absurd (by decide) z) (fun _ => ?_)
                            refine jr_ic rfl ?_
                            refine jr_iret rfl rfl (Nat.zero_le _) (Nat.zero_le _) ?_
                            first
                              | exact ⟨rfl, hRel0⟩
                              | (exfalso; omega)
                              | (exfalso; simp (disch := omega) only [Int32.lt_iff_toInt_lt, Int32.le_iff_toInt_le, ← Int32.toInt_inj, Int32.reduceToInt, nI_toInt] at c1 c4 c1RephasMonth c5RephasMonth c1CalhadMonth c5CalhadMonth c10CalhadMonth c27 m5MDhasMonths m4 m7 m2MDisIn; done)
                              | (exfalso; simp (disch := omega) only [Int32.lt_iff_toInt_lt, Int32.le_iff_toInt_le, ← Int32.toInt_inj, Int32.reduceToInt, nI_toInt] at c1 c4 c1RephasMonth c5RephasMonth c1CalhadMonth c5CalhadMonth c10CalhadMonth c27 m5MDhasMonths m4 m7 m2MDisIn; omega)
                          · refine jr_iload rfl rfl ?_
                            refine jr_iload rfl rfl ?_
                            refine jr_icmp_gt rfl (fun m5MDisIn => ?_) (fun m5MDisIn => ?_)
                            · refine jr_ic rfl ?_
                              refine jr_zret rfl rfl rfl (Nat.zero_le _) (Nat.zero_le _) ?_
                              refine jr_if_ne rfl (fun z => absurd (by decide) z) (fun _ => ?_)
                              refine jr_ic rfl ?_
                              refine jr_iret rfl rfl (Nat.zero_le _) (Nat.zero_le _) ?_
                              first
                                | exact ⟨rfl, hRel0⟩
                                | (exfalso; omega)
                                | (exfalso; simp (disch := omega) only [Int32.lt_iff_toInt_lt, Int32.le_iff_toInt_le, ← Int32.toInt_inj, Int32.reduceToInt, nI_toInt] at c1 c4 c1RephasMonth c5RephasMonth c1CalhadMonth c5CalhadMonth c10CalhadMonth c27 m5MDhasMonths m4 m7 m2MDisIn m5MDisIn; done)
                                | (exfalso; simp (disch := omega) only [Int32.lt_iff_toInt_lt, Int32.le_iff_toInt_le, ← Int32.toInt_inj, Int32.reduceToInt, nI_toInt] at c1 c4 c1RephasMonth c5RephasMonth c1CalhadMonth c5CalhadMonth c10CalhadMonth c27 m5MDhasMonths m4 m7 m2MDisIn m5MDisIn; omega)
                            · refine jr_ic rfl ?_
                              refine jr_goto rfl ?_
                              refine jr_zret rfl rfl rfl (Nat.zero_le _) (Nat.zero_le _) ?_
                              refine jr_if_ne rfl (fun _ => ?_) (fun z => absurd z (by decide))
                              refine jr_iload rfl rfl ?_
                              refine jr_aload rfl rfl ?_
                              refine jr_getR rfl rfl rfl rfl (Or.inl rfl) ?_
                              refine jr_aload rfl rfl ?_
                              refine jr_getI rfl rfl ?_
                              refine jr_iald (len := 2) rfl rfl hw.1 (by omega) ?_
                              refine jr_imul rfl ?_
                              refine jr_iload rfl rfl ?_
                              refine jr_iadd rfl ?_
                              refine jr_ist4 rfl rfl ?_
                              refine jr_iload rfl rfl ?_
                              refine jr_aload rfl rfl ?_
                              refine jr_getR rfl rfl rfl rfl (Or.inl rfl) ?_
                              refine jr_ic rfl ?_
                              refine jr_iald (len := 337) rfl rfl (show _ = nI 0 from rfl) (by decide) ?_
                              refine jr_icmp_ge rfl (fun m36 => ?_) (fun m36 => ?_)
                              · refine jr_ic rfl ?_
                                refine jr_iret rfl rfl (Nat.zero_le _) (Nat.zero_le _) ?_
                                first
                                  | exact ⟨rfl, hRel0⟩
                                  | (exfalso; omega)
                                  | (exfalso; simp (disch := omega) only [Int32.lt_iff_toInt_lt, Int32.le_iff_toInt_le, ← Int32.toInt_inj, Int32.reduceToInt, nI_toInt] at c1 c4 c1RephasMonth c5RephasMonth c1CalhadMonth c5CalhadMonth c10CalhadMonth c27 m5MDhasMonths m4 m7 m2MDisIn m5MDisIn m36; done)
                                  | (exfalso; simp (disch := omega) only [Int32.lt_iff_toInt_lt, Int32.le_iff_toInt_le, ← Int32.toInt_inj, Int32.reduceToInt, nI_toInt] at c1 c4 c1RephasMonth c5RephasMonth c1CalhadMonth c5CalhadMonth c10CalhadMonth c27 m5MDhasMonths m4 m7 m2MDisIn m5MDisIn m36; omega)
                              · refine jr_iload rfl rfl ?_
                                refine jr_ic rfl ?_
                                refine jr_aload rfl rfl ?_
                                refine jr_getR rfl rfl rfl rfl (Or.inl rfl) ?_
                                refine jr_ic rfl ?_
                                refine jr_iload rfl rfl ?_
                                refine jr_iadd rfl ?_
                                first
                                  | (exfalso; omega)
                                  | (exfalso; simp (disch := omega) only [Int32.lt_iff_toInt_lt, Int32.le_iff_toInt_le, ← Int32.toInt_inj, Int32.reduceToInt, nI_toInt] at c1 c4 c1RephasMonth c5RephasMonth c1CalhadMonth c5CalhadMonth c10CalhadMonth c27 m5MDhasMonths m4 m7 m2MDisIn m5MDisIn m36; done)
                                  | (exfalso; simp (disch := omega) only [Int32.lt_iff_toInt_lt, Int32.le_iff_toInt_le, ← Int32.toInt_inj, Int32.reduceToInt, nI_toInt] at c1 c4 c1RephasMonth c5RephasMonth c1CalhadMonth c5CalhadMonth c10CalhadMonth c27 m5MDhasMonths m4 m7 m2MDisIn m5MDisIn m36; omega)
                  · refine jr_iload rfl rfl ?_
                    refine jr_aload rfl rfl ?_
                    refine jr_getR rfl rfl rfl rfl (Or.inl rfl) ?_
                    refine jr_getR rfl rfl rfl rfl (Or.inl rfl) ?_
                    refine jr_iload rfl rfl ?_
                    first
                      | (exfalso; omega)
                      | (exfalso; simp (disch := omega) only [Int32.lt_iff_toInt_lt, Int32.le_iff_toInt_le, ← Int32.toInt_inj, Int32.reduceToInt, nI_toInt] at c1 c4 c1RephasMonth c5RephasMonth c1CalhadMonth c5CalhadMonth c10CalhadMonth c27; done)
                      | (exfalso; simp (disch := omega) only [Int32.lt_iff_toInt_lt, Int32.le_iff_toInt_le, ← Int32.toInt_inj, Int32.reduceToInt, nI_toInt] at c1 c4 c1RephasMonth c5RephasMonth c1CalhadMonth c5CalhadMonth c10CalhadMonth c27; omega)

def jw_net (C : jw_C) (t p : Int32) : Nat → Int32
  | 0 => 0
  | d + 1 => if bt t d = true then (if C 7 d = p then jw_net C t p d + C 8 d else if C 6 d = p then jw_net C t p d - C 8 d else jw_net C t p d) else jw_net C t p d
set_option maxHeartbeats 800000 in
set_option maxRecDepth 100000 in
theorem lp_netOf {d n0 : Nat} {Q : Option jx_V → jx_H → Prop} {h hm : jx_H} {b r : Nat} {p t : Int32} (j : Nat) (hR0 : jz_R hm b) (hrep : jh_M h 1 0 0 = r + 1) (hR : jy_R h r hm b) (hj : j ≤ jz_nd hm b) (hQ : Q (some (jv_i (jw_net (jC hm b) t p (jz_nd hm b)))) h)  : jx_W (jm_Cal_netOf, d + 1, 0, 0, false, 0, n0) Q 0 0 4 [some (jv_r 1 0), some (jv_i p), some (jv_i t), some (jv_i (jw_net (jC hm b) t p j)), some (jv_i (nI j)), none] [] h := by
  have hnd := hR0.2.2.1
  have hnd5 := hnd.2
  refine jr_iload rfl rfl ?_
  refine jr_aload rfl rfl ?_
  refine jr_getM rfl rfl rfl rfl hrep ?_
  refine jr_getI rfl rfl ?_
  rw [show jh_I h 7 r 5 = nI (jz_nd hm b) from hR.2.2.1.trans hnd.1]
  refine jr_icmp_ge rfl (fun c8 => ?_) (fun c8 => ?_)
  · refine jr_iload rfl rfl ?_
    refine jr_iret rfl rfl (Nat.zero_le _) (Nat.zero_le _) ?_
    have hj2 : j = jz_nd hm b := by have := jn_le (show nI (jz_nd hm b) ≤ nI j from c8) (by omega) (by omega); omega
    subst hj2
    exact hQ
  · have hj1 : j < jz_nd hm b := jn_nle (show ¬ nI (jz_nd hm b) ≤ nI j from c8) (by omega) (by omega)
    have hdue := hR.2.2.2.2.2.1 j hj1
    obtain ⟨x, y, z, u, m, hx, hy, -, -, -, hx1, hy1, hxy, -⟩ := hR0.2.2.2.2.1 j hj1
    have hne : ¬ jC hm b 7 j = jC hm b 6 j := by
      rw [hx, hy]; intro q; exact hxy (jn_eq q.symm (by have := hR0.2.1.2; omega) (by have := hR0.2.1.2; omega))
    refine jr_iload rfl rfl ?_
    refine jr_ic rfl ?_
    refine jr_icmp_ge rfl (fun z => absurd z (nI_ge (a := j) (b := 12) (by omega) (by decide))) (fun _ => ?_)
    refine jr_aload rfl rfl ?_
    refine jr_getM rfl rfl rfl rfl hrep ?_
    refine jr_iload rfl rfl ?_
    refine jr_cv1 (mc' := 0) (ms' := 0) rfl jm_Rep_dueAt_n jm_Rep_dueAt_f rfl rfl rfl rfl rfl rfl rfl (Nat.zero_le _) (Nat.zero_le _) ?_
    refine ev_Rep_dueAt (by omega) ?_
    refine jr_ast5 rfl rfl ?_
    refine jr_iload rfl rfl ?_
    refine jr_iload rfl rfl ?_
    refine jr_iushr rfl ?_
    refine jr_ic rfl ?_
    refine jr_iand rfl ?_
    rw [show (t.toUInt32 >>> ((nI j).toUInt32 &&& Int32.toUInt32 31)).toInt32 &&& 1 = if bt t j = true then 1 else 0 from jy_u_bt (by omega)]
    refine jr_if_eq rfl (fun c22 => ?_) (fun c22 => ?_)
    · refine jr_iinc4 rfl rfl ?_
      refine jr_goto rfl ?_
      rw [jn_S]
      have e : jw_net (jC hm b) t p (j + 1) = jw_net (jC hm b) t p j := by rw [jw_net, if_neg (jc_b0 c22)]
      have e2 := lp_netOf (d := d) (n0 := n0) (j + 1) hR0 hrep hR (by omega) hQ
      rw [e] at e2
      exact jr_drop 5 e2
    · refine jr_aload rfl rfl ?_
      refine jr_getI rfl rfl ?_
      rw [hdue.2.1]
      refine jr_iload rfl rfl ?_
      refine jr_icmp_ne rfl (fun c26 => ?_) (fun c26 => ?_)
      · refine jr_aload rfl rfl ?_
        refine jr_getI rfl rfl ?_
        rw [hdue.1]
        refine jr_iload rfl rfl ?_
        refine jr_icmp_ne rfl (fun c35 => ?_) (fun c35 => ?_)
        · refine jr_iinc4 rfl rfl ?_
          refine jr_goto rfl ?_
          rw [jn_S]
          have e : jw_net (jC hm b) t p (j + 1) = jw_net (jC hm b) t p j := by rw [jw_net, if_pos (jc_b1 c22), if_neg c26, if_neg c35]
          have e2 := lp_netOf (d := d) (n0 := n0) (j + 1) hR0 hrep hR (by omega) hQ
          rw [e] at e2
          exact jr_drop 5 e2
        · refine jr_iload rfl rfl ?_
          refine jr_aload rfl rfl ?_
          refine jr_getI rfl rfl ?_
          rw [hdue.2.2.1]
          refine jr_isub rfl ?_
          refine jr_ist3 rfl rfl ?_
          refine jr_iinc4 rfl rfl ?_
          refine jr_goto rfl ?_
          rw [jn_S]
          have e : jw_net (jC hm b) t p (j + 1) = jw_net (jC hm b) t p j - jC hm b 8 j := by rw [jw_net, if_pos (jc_b1 c22), if_neg c26, if_pos c35]
          have e2 := lp_netOf (d := d) (n0 := n0) (j + 1) hR0 hrep hR (by omega) hQ
          rw [e] at e2
          exact jr_drop 5 e2
      · refine jr_iload rfl rfl ?_
        refine jr_aload rfl rfl ?_
        refine jr_getI rfl rfl ?_
        rw [hdue.2.2.1]
        refine jr_iadd rfl ?_
        refine jr_ist3 rfl rfl ?_
        refine jr_aload rfl rfl ?_
        refine jr_getI rfl rfl ?_
        rw [hdue.1]
        refine jr_iload rfl rfl ?_
        refine jr_icmp_ne rfl (fun c35 => ?_) (fun c35 => ?_)
        · refine jr_iinc4 rfl rfl ?_
          refine jr_goto rfl ?_
          rw [jn_S]
          have e : jw_net (jC hm b) t p (j + 1) = jw_net (jC hm b) t p j + jC hm b 8 j := by rw [jw_net, if_pos (jc_b1 c22), if_pos c26]
          have e2 := lp_netOf (d := d) (n0 := n0) (j + 1) hR0 hrep hR (by omega) hQ
          rw [e] at e2
          exact jr_drop 5 e2
        · refine jr_iload rfl rfl ?_
          refine jr_aload rfl rfl ?_
          refine jr_getI rfl rfl ?_
          rw [hdue.2.2.1]
          refine jr_isub rfl ?_
          refine jr_ist3 rfl rfl ?_
          refine jr_iinc4 rfl rfl ?_
          refine jr_goto rfl ?_
          rw [jn_S]
          have e : jw_net (jC hm b) t p (j + 1) = jw_net (jC hm b) t p j + jC hm b 8 j - jC hm b 8 j := by rw [jw_net, if_pos (jc_b1 c22)]; exact absurd (c26.trans c35.symm) hne --]
          have e2 := lp_netOf (d := d) (n0 := n0) (j + 1) hR0 hrep hR (by omega) hQ
          rw [e] at e2
          exact jr_drop 5 e2
termination_by jz_nd hm b - j
decreasing_by all_goals omega

set_option maxHeartbeats 800000 in
set_option maxRecDepth 100000 in
theorem ev_netOf {d : Nat} {h : jx_H} {Q : Option jx_V → jx_H → Prop} {hm : jx_H} {b r : Nat} {p t : Int32} (hR0 : jz_R hm b) (hrep : jh_M h 1 0 0 = r + 1) (hR : jy_R h r hm b) (hQ : Q (some (jv_i (jw_net (jC hm b) t p (jz_nd hm b)))) h)  : jx_Ev jm_Cal_netOf (d + 1) 0 0 false 0 [jv_r 1 0, jv_i p, jv_i t] h Q := by
  show jx_W (jm_Cal_netOf, d + 1, 0, 0, false, 0, _) Q 0 0 0 [some (jv_r 1 0), some (jv_i p), some (jv_i t), none, none, none] [] _
  refine jr_ic rfl ?_
  refine jr_ist3 rfl rfl ?_
  refine jr_ic rfl ?_
  refine jr_ist4 rfl rfl ?_
  exact lp_netOf 0 hR0 hrep hR (Nat.zero_le _) hQ

set_option maxHeartbeats 800000 in
set_option maxRecDepth 100000 in
theorem lp_MD_net {d n0 : Nat} {Q : Option jx_V → jx_H → Prop} {h : jx_H} {b : Nat} {p t : Int32} (j : Nat) (hb : jh_I h 11 0 43 = nI b) (hb2 : b < 2) (hR0 : jz_R h b) (hj : j ≤ jz_nd h b) (hQ : Q (some (jv_i (jw_net (jC h b) t p (jz_nd h b)))) h)  : jx_W (jm_MD_net, d + 1, 0, 0, false, 1, n0) Q 0 0 18 [some (jv_r 11 0), some (jv_i p), some (jv_i t), some (jv_i (jw_net (jC h b) t p j)), some (jv_i (nI j)), none] [] h := by
  have hnd := hR0.2.2.1
  have hnd5 := hnd.2
  refine jr_iload rfl rfl ?_
  refine jr_aload rfl rfl ?_
  refine jr_cv0 (mc' := 0) (ms' := 0) rfl jm_MD_dueMany_n jm_MD_dueMany_f rfl rfl rfl rfl rfl rfl rfl (Nat.zero_le _) (Nat.zero_le _) ?_
  show jx_W (jm_MD_dueMany, _, _, _, _, _, _) _ 0 0 0 [some _] [] _
  refine jr_aload rfl rfl ?_
  refine jr_getR rfl rfl rfl rfl (Or.inl rfl) ?_
  refine jr_aload rfl rfl ?_
  refine jr_getI rfl rfl ?_
  refine jr_iald (len := 2) rfl rfl hb (by omega) ?_
  refine jr_iret rfl rfl (Nat.zero_le _) (Nat.zero_le _) ?_
  rw [hnd.1]
  refine jr_icmp_ge rfl (fun c21 => ?_) (fun c21 => ?_)
  · refine jr_iload rfl rfl ?_
    refine jr_iret rfl rfl (Nat.zero_le _) (Nat.zero_le _) ?_
    have hj2 : j = jz_nd h b := by have := jn_le (show nI (jz_nd h b) ≤ nI j from c21) (by omega) (by omega); omega
    subst hj2
    exact hQ
  · have hj1 : j < jz_nd h b := jn_nle (show ¬ nI (jz_nd h b) ≤ nI j from c21) (by omega) (by omega)
    refine jr_iload rfl rfl ?_
    refine jr_iload rfl rfl ?_
    refine jr_ishr rfl ?_
    refine jr_ic rfl ?_
    refine jr_iand rfl ?_
    rw [jy_s_bt (m := t) (l := j) (by omega)]
    refine jr_if_ne rfl (fun c27 => ?_) (fun c27 => ?_)
    · refine jr_ic rfl ?_
      refine jr_aload rfl rfl ?_
      refine jr_getI rfl rfl ?_
      refine jr_imul rfl ?_
      refine jr_iload rfl rfl ?_
      refine jr_iadd rfl ?_
      refine jr_ist5 rfl rfl ?_
      refine jr_iload rfl rfl ?_
      refine jr_aload rfl rfl ?_
      refine jr_getR rfl rfl rfl rfl (Or.inl rfl) ?_
      refine jr_iload rfl rfl ?_
      refine jr_iald (len := 24) rfl rfl (jn_add (jn_mul (show _ = nI 12 from rfl) hb) rfl) (by omega) ?_
      refine jr_iload rfl rfl ?_
      refine jr_icmp_ne rfl (fun c42 => ?_) (fun c42 => ?_)
      · refine jr_aload rfl rfl ?_
        refine jr_getR rfl rfl rfl rfl (Or.inl rfl) ?_
        refine jr_iload rfl rfl ?_
        refine jr_iald (len := 24) rfl rfl (jn_add (jn_mul (show _ = nI 12 from rfl) hb) rfl) (by omega) ?_
        refine jr_iload rfl rfl ?_
        refine jr_icmp_ne rfl (fun c53 => ?_) (fun c53 => ?_)
        · refine jr_ic rfl ?_
          refine jr_iadd rfl ?_
          refine jr_ist3 rfl rfl ?_
          refine jr_iinc4 rfl rfl ?_
          refine jr_goto rfl ?_
          rw [jn_S]
          have e : jw_net (jC h b) t p (j + 1) = jw_net (jC h b) t p j + 0 := by rw [jw_net, if_pos (jc_b1 c27), if_neg (show ¬ jC h b 7 j = p from c42), if_neg (show ¬ jC h b 6 j = p from c53), Int32.add_zero]
          have e2 := lp_MD_net (d := d) (n0 := n0) (j + 1) hb hb2 hR0 (by omega) hQ
          rw [e] at e2
          exact jr_drop 5 e2
        · refine jr_aload rfl rfl ?_
          refine jr_getR rfl rfl rfl rfl (Or.inl rfl) ?_
          refine jr_iload rfl rfl ?_
          refine jr_iald (len := 24) rfl rfl (jn_add (jn_mul (show _ = nI 12 from rfl) hb) rfl) (by omega) ?_
          refine jr_ineg rfl ?_
          refine jr_goto rfl ?_
          refine jr_iadd rfl ?_
          refine jr_ist3 rfl rfl ?_
          refine jr_iinc4 rfl rfl ?_
          refine jr_goto rfl ?_
          rw [jn_S]
          have e : jw_net (jC h b) t p (j + 1) = jw_net (jC h b) t p j + -jC h b 8 j := by rw [jw_net, if_pos (jc_b1 c27), if_neg (show ¬ jC h b 7 j = p from c42), if_pos (show jC h b 6 j = p from c53), Int32.sub_eq_add_neg]
          have e2 := lp_MD_net (d := d) (n0 := n0) (j + 1) hb hb2 hR0 (by omega) hQ
          rw [e] at e2
          exact jr_drop 5 e2
      · refine jr_aload rfl rfl ?_
        refine jr_getR rfl rfl rfl rfl (Or.inl rfl) ?_
        refine jr_iload rfl rfl ?_
        refine jr_iald (len := 24) rfl rfl (jn_add (jn_mul (show _ = nI 12 from rfl) hb) rfl) (by omega) ?_
        refine jr_goto rfl ?_
        refine jr_iadd rfl ?_
        refine jr_ist3 rfl rfl ?_
        refine jr_iinc4 rfl rfl ?_
        refine jr_goto rfl ?_
        rw [jn_S]
        have e : jw_net (jC h b) t p (j + 1) = jw_net (jC h b) t p j + jC h b 8 j := by rw [jw_net, if_pos (jc_b1 c27), if_pos (show jC h b 7 j = p from c42)]
        have e2 := lp_MD_net (d := d) (n0 := n0) (j + 1) hb hb2 hR0 (by omega) hQ
        rw [e] at e2
        exact jr_drop 5 e2
    · refine jr_goto rfl ?_
      refine jr_iinc4 rfl rfl ?_
      refine jr_goto rfl ?_
      rw [jn_S]
      have e : jw_net (jC h b) t p (j + 1) = jw_net (jC h b) t p j := by rw [jw_net, if_neg (jc_b0 c27)]
      have e2 := lp_MD_net (d := d) (n0 := n0) (j + 1) hb hb2 hR0 (by omega) hQ
      rw [e] at e2
      exact e2
termination_by jz_nd h b - j
decreasing_by all_goals omega

set_option maxHeartbeats 800000 in
set_option maxRecDepth 100000 in
theorem pd_net {d : Nat} {hc hm : jx_H} {x y : Int32} (hRel : jz_Rel hc hm) : jx_Ev jm_JV_net (d + 40) 0 0 false 0 [jv_r 10 0, jv_i x, jv_i y] hc (fun r hc' => jx_Ev jm_MD_net (d + 40) 0 0 false 1 [jv_r 11 0, jv_i x, jv_i y] hm (fun r' hm' => r = r' ∧ jz_Rel hc' hm')) := by
  have hRel0 := hRel
  obtain ⟨b, r, ⟨hw, hG, hr2, hto, hsp, hR, hA, hL⟩, hTa, hFa, hLy, hTi, hLe, hBo, hAc, hWo⟩ := hRel
  have hb2 := hw.2.1
  have hnp := hw.2.2.1.2.1
  have hnp5 := hnp.2
  have kp1 : (jh_I hc 7 r 3).toInt = (jz_np hm b : Int) := by rw [hR.2.1]; exact (congrArg Int32.toInt hnp.1).trans (nI_toInt (by omega))
  have kp2 : (jh_I hm 67 0 b).toInt = (jz_np hm b : Int) := (congrArg Int32.toInt hnp.1).trans (nI_toInt (by omega))
  have kp3 : (jh_I hm 67 0 b - 1).toInt = (jz_np hm b : Int) - 1 := by rw [Int32.toInt_sub, kp2, show (1 : Int32).toInt = 1 from rfl]; exact jn_sm (by omega) (by omega)
  have es1 : ((1 : Int32) <<< (jh_I hc 7 r 5 &&& 31)) = ((1 : Int32) <<< (jh_I hm 68 0 b &&& 31)) := by rw [show jh_I hc 7 r 5 = jh_I hm 68 0 b from hR.2.2.1]
  rcases nI_dec x (jz_np hm b) (by omega) with ⟨i, rfl, hi, hi2⟩ | hi
  · show jx_W (jm_JV_net, d + 40, 0, 0, false, 0, _) _ 0 0 0 [some (jv_r 10 0), some (jv_i (nI i)), some (jv_i y)] [] _
    refine jr_aload rfl rfl ?_
    refine jr_getM rfl rfl rfl rfl hto ?_
    refine jr_iload rfl rfl ?_
    refine jr_cv1 (mc' := 0) (ms' := 0) rfl jm_Rep_hasPerson_n jm_Rep_hasPerson_f rfl rfl rfl rfl rfl rfl rfl (Nat.zero_le _) (Nat.zero_le _) ?_
    show jx_W (jm_Rep_hasPerson, _, _, _, _, _, _) _ 0 0 0 [some _, some _] [] _
    refine jr_iload rfl rfl ?_
    refine jr_if_lt rfl (fun c1RephasPerson => ?_) (fun c1RephasPerson => ?_)
    · refine jr_ic rfl ?_
      refine jr_zret rfl rfl rfl (Nat.zero_le _) (Nat.zero_le _) ?_
      refine jr_if_eq rfl (fun _ => ?_) (fun z => absurd (by decide) z)
      refine jr_ic rfl ?_
      refine jr_iret rfl rfl (Nat.zero_le _) (Nat.zero_le _) ?_
      show jx_W (jm_MD_net, d + 40, 0, 0, false, 1, _) _ 0 0 0 [some _, some _, some _, none, none, none] [] _
      refine jr_aload rfl rfl ?_
      refine jr_iload rfl rfl ?_
      refine jr_cv1 (mc' := 0) (ms' := 0) rfl jm_MD_isPerson_n jm_MD_isPerson_f rfl rfl rfl rfl rfl rfl rfl (Nat.zero_le _) (Nat.zero_le _) ?_
      show jx_W (jm_MD_isPerson, _, _, _, _, _, _) _ 0 0 0 [some _, some _] [] _
      refine jr_iload rfl rfl ?_
      refine jr_ic rfl ?_
      refine jr_aload rfl rfl ?_
      refine jr_cv0 (mc' := 0) (ms' := 0) rfl jm_MD_personMany_n jm_MD_personMany_f rfl rfl rfl rfl rfl rfl rfl (Nat.zero_le _) (Nat.zero_le _) ?_
      show jx_W (jm_MD_personMany, _, _, _, _, _, _) _ 0 0 0 [some _] [] _
      refine jr_aload rfl rfl ?_
      refine jr_getR rfl rfl rfl rfl (Or.inl rfl) ?_
      refine jr_aload rfl rfl ?_
      refine jr_getI rfl rfl ?_
      refine jr_iald (len := 2) rfl rfl hw.1 (by omega) ?_
      refine jr_iret rfl rfl (Nat.zero_le _) (Nat.zero_le _) ?_
      refine jr_ic rfl ?_
      refine jr_isub rfl ?_
      refine jr_cs3 (mc' := 0) (ms' := 0) rfl jm_MD_isIn_n jm_MD_isIn_f rfl rfl rfl rfl rfl (Nat.zero_le _) (Nat.zero_le _) ?_
      show jx_W (jm_MD_isIn, _, _, _, _, _, _) _ 0 0 0 [some _, some _, some _] [] _
      refine jr_iload rfl rfl ?_
      refine jr_iload rfl rfl ?_
      refine jr_icmp_lt rfl (fun m2MDisIn => ?_) (fun m2MDisIn => ?_)
      · refine jr_ic rfl ?_
        refine jr_zret rfl rfl rfl (Nat.zero_le _) (Nat.zero_le _) ?_
        refine jr_zret rfl rfl rfl (Nat.zero_le _) (Nat.zero_le _) ?_
        refine jr_if_eq rfl (fun _ => ?_) (fun z => absurd (by decide) z)
        refine jr_ic rfl ?_
        refine jr_iret rfl rfl (Nat.zero_le _) (Nat.zero_le _) ?_
        first
          | exact ⟨rfl, hRel0⟩
          | (exfalso; omega)
          | (exfalso; simp (disch := omega) only [Int32.lt_iff_toInt_lt, Int32.le_iff_toInt_le, ← Int32.toInt_inj, Int32.reduceToInt, nI_toInt] at c1RephasPerson m2MDisIn; done)
          | (exfalso; simp (disch := omega) only [Int32.lt_iff_toInt_lt, Int32.le_iff_toInt_le, ← Int32.toInt_inj, Int32.reduceToInt, nI_toInt] at c1RephasPerson m2MDisIn; omega)
      · refine jr_iload rfl rfl ?_
        refine jr_iload rfl rfl ?_
        refine jr_icmp_gt rfl (fun m5MDisIn => ?_) (fun m5MDisIn => ?_)
        · refine jr_ic rfl ?_
          refine jr_zret rfl rfl rfl (Nat.zero_le _) (Nat.zero_le _) ?_
          refine jr_zret rfl rfl rfl (Nat.zero_le _) (Nat.zero_le _) ?_
          refine jr_if_eq rfl (fun _ => ?_) (fun z => absurd (by decide) z)
          refine jr_ic rfl ?_
          refine jr_iret rfl rfl (Nat.zero_le _) (Nat.zero_le _) ?_
          first
            | exact ⟨rfl, hRel0⟩
            | (exfalso; omega)
            | (exfalso; simp (disch := omega) only [Int32.lt_iff_toInt_lt, Int32.le_iff_toInt_le, ← Int32.toInt_inj, Int32.reduceToInt, nI_toInt] at c1RephasPerson m2MDisIn m5MDisIn; done)
            | (exfalso; simp (disch := omega) only [Int32.lt_iff_toInt_lt, Int32.le_iff_toInt_le, ← Int32.toInt_inj, Int32.reduceToInt, nI_toInt] at c1RephasPerson m2MDisIn m5MDisIn; omega)
        · refine jr_ic rfl ?_
          refine jr_goto rfl ?_
          refine jr_zret rfl rfl rfl (Nat.zero_le _) (Nat.zero_le _) ?_
          refine jr_zret rfl rfl rfl (Nat.zero_le _) (Nat.zero_le _) ?_
          refine jr_if_eq rfl (fun z => absurd z (by decide)) (fun _ => ?_)
          refine jr_iload rfl rfl ?_
          refine jr_if_lt rfl (fun m5 => ?_) (fun m5 => ?_)
          · refine jr_ic rfl ?_
            refine jr_iret rfl rfl (Nat.zero_le _) (Nat.zero_le _) ?_
            first
              | exact ⟨rfl, hRel0⟩
              | (exfalso; omega)
              | (exfalso; simp (disch := omega) only [Int32.lt_iff_toInt_lt, Int32.le_iff_toInt_le, ← Int32.toInt_inj, Int32.reduceToInt, nI_toInt] at c1RephasPerson m2MDisIn m5MDisIn m5; done)
              | (exfalso; simp (disch := omega) only [Int32.lt_iff_toInt_lt, Int32.le_iff_toInt_le, ← Int32.toInt_inj, Int32.reduceToInt, nI_toInt] at c1RephasPerson m2MDisIn m5MDisIn m5; omega)
          · refine jr_iload rfl rfl ?_
            refine jr_ic rfl ?_
            refine jr_aload rfl rfl ?_
            refine jr_cv0 (mc' := 0) (ms' := 0) rfl jm_MD_dueMany_n jm_MD_dueMany_f rfl rfl rfl rfl rfl rfl rfl (Nat.zero_le _) (Nat.zero_le _) ?_
            show jx_W (jm_MD_dueMany, _, _, _, _, _, _) _ 0 0 0 [some _] [] _
            refine jr_aload rfl rfl ?_
            refine jr_getR rfl rfl rfl rfl (Or.inl rfl) ?_
            refine jr_aload rfl rfl ?_
            refine jr_getI rfl rfl ?_
            refine jr_iald (len := 2) rfl rfl hw.1 (by omega) ?_
            refine jr_iret rfl rfl (Nat.zero_le _) (Nat.zero_le _) ?_
            refine jr_ishl rfl ?_
            refine jr_icmp_lt rfl (fun m11 => ?_) (fun m11 => ?_)
            · refine jr_ic rfl ?_
              refine jr_ist3 rfl rfl ?_
              refine jr_ic rfl ?_
              refine jr_ist4 rfl rfl ?_
              first
                | (exfalso; omega)
                | (exfalso; simp (disch := omega) only [Int32.lt_iff_toInt_lt, Int32.le_iff_toInt_le, ← Int32.toInt_inj, Int32.reduceToInt, nI_toInt] at c1RephasPerson m2MDisIn m5MDisIn m5 m11; done)
                | (exfalso; simp (disch := omega) only [Int32.lt_iff_toInt_lt, Int32.le_iff_toInt_le, ← Int32.toInt_inj, Int32.reduceToInt, nI_toInt] at c1RephasPerson m2MDisIn m5MDisIn m5 m11; omega)
            · refine jr_ic rfl ?_
              refine jr_iret rfl rfl (Nat.zero_le _) (Nat.zero_le _) ?_
              first
                | exact ⟨rfl, hRel0⟩
                | (exfalso; omega)
                | (exfalso; simp (disch := omega) only [Int32.lt_iff_toInt_lt, Int32.le_iff_toInt_le, ← Int32.toInt_inj, Int32.reduceToInt, nI_toInt] at c1RephasPerson m2MDisIn m5MDisIn m5 m11; done)
                | (exfalso; simp (disch := omega) only [Int32.lt_iff_toInt_lt, Int32.le_iff_toInt_le, ← Int32.toInt_inj, Int32.reduceToInt, nI_toInt] at c1RephasPerson m2MDisIn m5MDisIn m5 m11; omega)
    · refine jr_iload rfl rfl ?_
      refine jr_aload rfl rfl ?_
      refine jr_getI rfl rfl ?_
      refine jr_icmp_ge rfl (fun c5RephasPerson => ?_) (fun c5RephasPerson => ?_)
      · refine jr_ic rfl ?_
        refine jr_zret rfl rfl rfl (Nat.zero_le _) (Nat.zero_le _) ?_
        refine jr_if_eq rfl (fun _ => ?_) (fun z => absurd (by decide) z)
        refine jr_ic rfl ?_
        refine jr_iret rfl rfl (Nat.zero_le _) (Nat.zero_le _) ?_
        show jx_W (jm_MD_net, d + 40, 0, 0, false, 1, _) _ 0 0 0 [some _, some _, some _, none, none, none] [] _
        refine jr_aload rfl rfl ?_
        refine jr_iload rfl rfl ?_
        refine jr_cv1 (mc' := 0) (ms' := 0) rfl jm_MD_isPerson_n jm_MD_isPerson_f rfl rfl rfl rfl rfl rfl rfl (Nat.zero_le _) (Nat.zero_le _) ?_
        show jx_W (jm_MD_isPerson, _, _, _, _, _, _) _ 0 0 0 [some _, some _] [] _
        refine jr_iload rfl rfl ?_
        refine jr_ic rfl ?_
        refine jr_aload rfl rfl ?_
        refine jr_cv0 (mc' := 0) (ms' := 0) rfl jm_MD_personMany_n jm_MD_personMany_f rfl rfl rfl rfl rfl rfl rfl (Nat.zero_le _) (Nat.zero_le _) ?_
        show jx_W (jm_MD_personMany, _, _, _, _, _, _) _ 0 0 0 [some _] [] _
        refine jr_aload rfl rfl ?_
        refine jr_getR rfl rfl rfl rfl (Or.inl rfl) ?_
        refine jr_aload rfl rfl ?_
        refine jr_getI rfl rfl ?_
        refine jr_iald (len := 2) rfl rfl hw.1 (by omega) ?_
        refine jr_iret rfl rfl (Nat.zero_le _) (Nat.zero_le _) ?_
        refine jr_ic rfl ?_
        refine jr_isub rfl ?_
        refine jr_cs3 (mc' := 0) (ms' := 0) rfl jm_MD_isIn_n jm_MD_isIn_f rfl rfl rfl rfl rfl (Nat.zero_le _) (Nat.zero_le _) ?_
        show jx_W (jm_MD_isIn, _, _, _, _, _, _) _ 0 0 0 [some _, some _, some _] [] _
        refine jr_iload rfl rfl ?_
        refine jr_iload rfl rfl ?_
        refine jr_icmp_lt rfl (fun m2MDisIn => ?_) (fun m2MDisIn => ?_)
        · refine jr_ic rfl ?_
          refine jr_zret rfl rfl rfl (Nat.zero_le _) (Nat.zero_le _) ?_
          refine jr_zret rfl rfl rfl (Nat.zero_le _) (Nat.zero_le _) ?_
          refine jr_if_eq rfl (fun _ => ?_) (fun z => absurd (by decide) z)
          refine jr_ic rfl ?_
          refine jr_iret rfl rfl (Nat.zero_le _) (Nat.zero_le _) ?_
          first
            | exact ⟨rfl, hRel0⟩
            | (exfalso; omega)
            | (exfalso; simp (disch := omega) only [Int32.lt_iff_toInt_lt, Int32.le_iff_toInt_le, ← Int32.toInt_inj, Int32.reduceToInt, nI_toInt] at c1RephasPerson c5RephasPerson m2MDisIn; done)
            | (exfalso; simp (disch := omega) only [Int32.lt_iff_toInt_lt, Int32.le_iff_toInt_le, ← Int32.toInt_inj, Int32.reduceToInt, nI_toInt] at c1RephasPerson c5RephasPerson m2MDisIn; omega)
        · refine jr_iload rfl rfl ?_
          refine jr_iload rfl rfl ?_
          refine jr_icmp_gt rfl (fun m5MDisIn => ?_) (fun m5MDisIn => ?_)
          · refine jr_ic rfl ?_
            refine jr_zret rfl rfl rfl (Nat.zero_le _) (Nat.zero_le _) ?_
            refine jr_zret rfl rfl rfl (Nat.zero_le _) (Nat.zero_le _) ?_
            refine jr_if_eq rfl (fun _ => ?_) (fun z => absurd (by decide) z)
            refine jr_ic rfl ?_
            refine jr_iret rfl rfl (Nat.zero_le _) (Nat.zero_le _) ?_
            first
              | exact ⟨rfl, hRel0⟩
              | (exfalso; omega)
              | (exfalso; simp (disch := omega) only [Int32.lt_iff_toInt_lt, Int32.le_iff_toInt_le, ← Int32.toInt_inj, Int32.reduceToInt, nI_toInt] at c1RephasPerson c5RephasPerson m2MDisIn m5MDisIn; done)
              | (exfalso; simp (disch := omega) only [Int32.lt_iff_toInt_lt, Int32.le_iff_toInt_le, ← Int32.toInt_inj, Int32.reduceToInt, nI_toInt] at c1RephasPerson c5RephasPerson m2MDisIn m5MDisIn; omega)
          · refine jr_ic rfl ?_
            refine jr_goto rfl ?_
            refine jr_zret rfl rfl rfl (Nat.zero_le _) (Nat.zero_le _) ?_
            refine jr_zret rfl rfl rfl (Nat.zero_le _) (Nat.zero_le _) ?_
            refine jr_if_eq rfl (fun z => absurd z (by decide)) (fun _ => ?_)
            refine jr_iload rfl rfl ?_
            refine jr_if_lt rfl (fun m5 => ?_) (fun m5 => ?_)
            · refine jr_ic rfl ?_
              refine jr_iret rfl rfl (Nat.zero_le _) (Nat.zero_le _) ?_
              first
                | exact ⟨rfl, hRel0⟩
                | (exfalso; omega)
                | (exfalso; simp (disch := omega) only [Int32.lt_iff_toInt_lt, Int32.le_iff_toInt_le, ← Int32.toInt_inj, Int32.reduceToInt, nI_toInt] at c1RephasPerson c5RephasPerson m2MDisIn m5MDisIn m5; done)
                | (exfalso; simp (disch := omega) only [Int32.lt_iff_toInt_lt, Int32.le_iff_toInt_le, ← Int32.toInt_inj, Int32.reduceToInt, nI_toInt] at c1RephasPerson c5RephasPerson m2MDisIn m5MDisIn m5; omega)
            · refine jr_iload rfl rfl ?_
              refine jr_ic rfl ?_
              refine jr_aload rfl rfl ?_
              refine jr_cv0 (mc' := 0) (ms' := 0) rfl jm_MD_dueMany_n jm_MD_dueMany_f rfl rfl rfl rfl rfl rfl rfl (Nat.zero_le _) (Nat.zero_le _) ?_
              show jx_W (jm_MD_dueMany, _, _, _, _, _, _) _ 0 0 0 [some _] [] _
              refine jr_aload rfl rfl ?_
              refine jr_getR rfl rfl rfl rfl (Or.inl rfl) ?_
              refine jr_aload rfl rfl ?_
              refine jr_getI rfl rfl ?_
              refine jr_iald (len := 2) rfl rfl hw.1 (by omega) ?_
              refine jr_iret rfl rfl (Nat.zero_le _) (Nat.zero_le _) ?_
              refine jr_ishl rfl ?_
              refine jr_icmp_lt rfl (fun m11 => ?_) (fun m11 => ?_)
              · refine jr_ic rfl ?_
                refine jr_ist3 rfl rfl ?_
                refine jr_ic rfl ?_
                refine jr_ist4 rfl rfl ?_
                first
                  | (exfalso; omega)
                  | (exfalso; simp (disch := omega) only [Int32.lt_iff_toInt_lt, Int32.le_iff_toInt_le, ← Int32.toInt_inj, Int32.reduceToInt, nI_toInt] at c1RephasPerson c5RephasPerson m2MDisIn m5MDisIn m5 m11; done)
                  | (exfalso; simp (disch := omega) only [Int32.lt_iff_toInt_lt, Int32.le_iff_toInt_le, ← Int32.toInt_inj, Int32.reduceToInt, nI_toInt] at c1RephasPerson c5RephasPerson m2MDisIn m5MDisIn m5 m11; omega)
              · refine jr_ic rfl ?_
                refine jr_iret rfl rfl (Nat.zero_le _) (Nat.zero_le _) ?_
                first
                  | exact ⟨rfl, hRel0⟩
                  | (exfalso; omega)
                  | (exfalso; simp (disch := omega) only [Int32.lt_iff_toInt_lt, Int32.le_iff_toInt_le, ← Int32.toInt_inj, Int32.reduceToInt, nI_toInt] at c1RephasPerson c5RephasPerson m2MDisIn m5MDisIn m5 m11; done)
                  | (exfalso; simp (disch := omega) only [Int32.lt_iff_toInt_lt, Int32.le_iff_toInt_le, ← Int32.toInt_inj, Int32.reduceToInt, nI_toInt] at c1RephasPerson c5RephasPerson m2MDisIn m5MDisIn m5 m11; omega)
      · refine jr_ic rfl ?_
        refine jr_goto rfl ?_
        refine jr_zret rfl rfl rfl (Nat.zero_le _) (Nat.zero_le _) ?_
        refine jr_if_eq rfl (fun z => absurd z (by decide)) (fun _ => ?_)
        refine jr_iload rfl rfl ?_
        refine jr_aload rfl rfl ?_
        refine jr_getM rfl rfl rfl rfl hto ?_
        refine jr_getI rfl rfl ?_
        refine jr_cs2 (mc' := 0) (ms' := 0) rfl jm_JV_isSet_n jm_JV_isSet_f rfl rfl rfl rfl rfl (Nat.zero_le _) (Nat.zero_le _) ?_
        show jx_W (jm_JV_isSet, _, _, _, _, _, _) _ 0 0 0 [some _, some _] [] _
        refine jr_iload rfl rfl ?_
        refine jr_if_lt rfl (fun c1JVisSet => ?_) (fun c1JVisSet => ?_)
        · refine jr_ic rfl ?_
          refine jr_zret rfl rfl rfl (Nat.zero_le _) (Nat.zero_le _) ?_
          refine jr_if_ne rfl (fun z => absurd (by decide) z) (fun _ => ?_)
          refine jr_ic rfl ?_
          refine jr_iret rfl rfl (Nat.zero_le _) (Nat.zero_le _) ?_
          show jx_W (jm_MD_net, d + 40, 0, 0, false, 1, _) _ 0 0 0 [some _, some _, some _, none, none, none] [] _
          refine jr_aload rfl rfl ?_
          refine jr_iload rfl rfl ?_
          refine jr_cv1 (mc' := 0) (ms' := 0) rfl jm_MD_isPerson_n jm_MD_isPerson_f rfl rfl rfl rfl rfl rfl rfl (Nat.zero_le _) (Nat.zero_le _) ?_
          show jx_W (jm_MD_isPerson, _, _, _, _, _, _) _ 0 0 0 [some _, some _] [] _
          refine jr_iload rfl rfl ?_
          refine jr_ic rfl ?_
          refine jr_aload rfl rfl ?_
          refine jr_cv0 (mc' := 0) (ms' := 0) rfl jm_MD_personMany_n jm_MD_personMany_f rfl rfl rfl rfl rfl rfl rfl (Nat.zero_le _) (Nat.zero_le _) ?_
          show jx_W (jm_MD_personMany, _, _, _, _, _, _) _ 0 0 0 [some _] [] _
          refine jr_aload rfl rfl ?_
          refine jr_getR rfl rfl rfl rfl (Or.inl rfl) ?_
          refine jr_aload rfl rfl ?_
          refine jr_getI rfl rfl ?_
          refine jr_iald (len := 2) rfl rfl hw.1 (by omega) ?_
          refine jr_iret rfl rfl (Nat.zero_le _) (Nat.zero_le _) ?_
          refine jr_ic rfl ?_
          refine jr_isub rfl ?_
          refine jr_cs3 (mc' := 0) (ms' := 0) rfl jm_MD_isIn_n jm_MD_isIn_f rfl rfl rfl rfl rfl (Nat.zero_le _) (Nat.zero_le _) ?_
          show jx_W (jm_MD_isIn, _, _, _, _, _, _) _ 0 0 0 [some _, some _, some _] [] _
          refine jr_iload rfl rfl ?_
          refine jr_iload rfl rfl ?_
          refine jr_icmp_lt rfl (fun m2MDisIn => ?_) (fun m2MDisIn => ?_)
          · refine jr_ic rfl ?_
            refine jr_zret rfl rfl rfl (Nat.zero_le _) (Nat.zero_le _) ?_
            refine jr_zret rfl rfl rfl (Nat.zero_le _) (Nat.zero_le _) ?_
            refine jr_if_eq rfl (fun _ => ?_) (fun z => absurd (by decide) z)
            refine jr_ic rfl ?_
            refine jr_iret rfl rfl (Nat.zero_le _) (Nat.zero_le _) ?_
            first
              | exact ⟨rfl, hRel0⟩
              | (exfalso; omega)
              | (exfalso; simp (disch := omega) only [Int32.lt_iff_toInt_lt, Int32.le_iff_toInt_le, ← Int32.toInt_inj, Int32.reduceToInt, nI_toInt] at c1RephasPerson c5RephasPerson c1JVisSet m2MDisIn; done)
              | (exfalso; simp (disch := omega) only [Int32.lt_iff_toInt_lt, Int32.le_iff_toInt_le, ← Int32.toInt_inj, Int32.reduceToInt, nI_toInt] at c1RephasPerson c5RephasPerson c1JVisSet m2MDisIn; omega)
          · refine jr_iload rfl rfl ?_
            refine jr_iload rfl rfl ?_
            refine jr_icmp_gt rfl (fun m5MDisIn => ?_) (fun m5MDisIn => ?_)
            · refine jr_ic rfl ?_
              refine jr_zret rfl rfl rfl (Nat.zero_le _) (Nat.zero_le _) ?_
              refine jr_zret rfl rfl rfl (Nat.zero_le _) (Nat.zero_le _) ?_
              refine jr_if_eq rfl (fun _ => ?_) (fun z => absurd (by decide) z)
              refine jr_ic rfl ?_
              refine jr_iret rfl rfl (Nat.zero_le _) (Nat.zero_le _) ?_
              first
                | exact ⟨rfl, hRel0⟩
                | (exfalso; omega)
                | (exfalso; simp (disch := omega) only [Int32.lt_iff_toInt_lt, Int32.le_iff_toInt_le, ← Int32.toInt_inj, Int32.reduceToInt, nI_toInt] at c1RephasPerson c5RephasPerson c1JVisSet m2MDisIn m5MDisIn; done)
                | (exfalso; simp (disch := omega) only [Int32.lt_iff_toInt_lt, Int32.le_iff_toInt_le, ← Int32.toInt_inj, Int32.reduceToInt, nI_toInt] at c1RephasPerson c5RephasPerson c1JVisSet m2MDisIn m5MDisIn; omega)
            · refine jr_ic rfl ?_
              refine jr_goto rfl ?_
              refine jr_zret rfl rfl rfl (Nat.zero_le _) (Nat.zero_le _) ?_
              refine jr_zret rfl rfl rfl (Nat.zero_le _) (Nat.zero_le _) ?_
              refine jr_if_eq rfl (fun z => absurd z (by decide)) (fun _ => ?_)
              refine jr_iload rfl rfl ?_
              refine jr_if_lt rfl (fun m5 => ?_) (fun m5 => ?_)
              · refine jr_ic rfl ?_
                refine jr_iret rfl rfl (Nat.zero_le _) (Nat.zero_le _) ?_
                first
                  | exact ⟨rfl, hRel0⟩
                  | (exfalso; omega)
                  | (exfalso; simp (disch := omega) only [Int32.lt_iff_toInt_lt, Int32.le_iff_toInt_le, ← Int32.toInt_inj, Int32.reduceToInt, nI_toInt] at c1RephasPerson c5RephasPerson c1JVisSet m2MDisIn m5MDisIn m5; done)
                  | (exfalso; simp (disch := omega) only [Int32.lt_iff_toInt_lt, Int32.le_iff_toInt_le, ← Int32.toInt_inj, Int32.reduceToInt, nI_toInt] at c1RephasPerson c5RephasPerson c1JVisSet m2MDisIn m5MDisIn m5; omega)
              · refine jr_iload rfl rfl ?_
                refine jr_ic rfl ?_
                refine jr_aload rfl rfl ?_
                refine jr_cv0 (mc' := 0) (ms' := 0) rfl jm_MD_dueMany_n jm_MD_dueMany_f rfl rfl rfl rfl rfl rfl rfl (Nat.zero_le _) (Nat.zero_le _) ?_
                show jx_W (jm_MD_dueMany, _, _, _, _, _, _) _ 0 0 0 [some _] [] _
                refine jr_aload rfl rfl ?_
                refine jr_getR rfl rfl rfl rfl (Or.inl rfl) ?_
                refine jr_aload rfl rfl ?_
                refine jr_getI rfl rfl ?_
                refine jr_iald (len := 2) rfl rfl hw.1 (by omega) ?_
                refine jr_iret rfl rfl (Nat.zero_le _) (Nat.zero_le _) ?_
                refine jr_ishl rfl ?_
                refine jr_icmp_lt rfl (fun m11 => ?_) (fun m11 => ?_)
                · refine jr_ic rfl ?_
                  refine jr_ist3 rfl rfl ?_
                  refine jr_ic rfl ?_
                  refine jr_ist4 rfl rfl ?_
                  first
                    | (exfalso; omega)
                    | (exfalso; simp (disch := omega) only [Int32.lt_iff_toInt_lt, Int32.le_iff_toInt_le, ← Int32.toInt_inj, Int32.reduceToInt, nI_toInt] at c1RephasPerson c5RephasPerson c1JVisSet m2MDisIn m5MDisIn m5 m11; done)
                    | (exfalso; simp (disch := omega) only [Int32.lt_iff_toInt_lt, Int32.le_iff_toInt_le, ← Int32.toInt_inj, Int32.reduceToInt, nI_toInt] at c1RephasPerson c5RephasPerson c1JVisSet m2MDisIn m5MDisIn m5 m11; omega)
                · refine jr_ic rfl ?_
                  refine jr_iret rfl rfl (Nat.zero_le _) (Nat.zero_le _) ?_
                  first
                    | exact ⟨rfl, hRel0⟩
                    | (exfalso; omega)
                    | (exfalso; simp (disch := omega) only [Int32.lt_iff_toInt_lt, Int32.le_iff_toInt_le, ← Int32.toInt_inj, Int32.reduceToInt, nI_toInt] at c1RephasPerson c5RephasPerson c1JVisSet m2MDisIn m5MDisIn m5 m11; done)
                    | (exfalso; simp (disch := omega) only [Int32.lt_iff_toInt_lt, Int32.le_iff_toInt_le, ← Int32.toInt_inj, Int32.reduceToInt, nI_toInt] at c1RephasPerson c5RephasPerson c1JVisSet m2MDisIn m5MDisIn m5 m11; omega)
        · refine jr_iload rfl rfl ?_
          refine jr_ic rfl ?_
          refine jr_iload rfl rfl ?_
          refine jr_ishl rfl ?_
          rw [es1]
          refine jr_icmp_ge rfl (fun c6JVisSet => ?_) (fun c6JVisSet => ?_)
          · refine jr_ic rfl ?_
            refine jr_zret rfl rfl rfl (Nat.zero_le _) (Nat.zero_le _) ?_
            refine jr_if_ne rfl (fun z => absurd (by decide) z) (fun _ => ?_)
            refine jr_ic rfl ?_
            refine jr_iret rfl rfl (Nat.zero_le _) (Nat.zero_le _) ?_
            show jx_W (jm_MD_net, d + 40, 0, 0, false, 1, _) _ 0 0 0 [some _, some _, some _, none, none, none] [] _
            refine jr_aload rfl rfl ?_
            refine jr_iload rfl rfl ?_
            refine jr_cv1 (mc' := 0) (ms' := 0) rfl jm_MD_isPerson_n jm_MD_isPerson_f rfl rfl rfl rfl rfl rfl rfl (Nat.zero_le _) (Nat.zero_le _) ?_
            show jx_W (jm_MD_isPerson, _, _, _, _, _, _) _ 0 0 0 [some _, some _] [] _
            refine jr_iload rfl rfl ?_
            refine jr_ic rfl ?_
            refine jr_aload rfl rfl ?_
            refine jr_cv0 (mc' := 0) (ms' := 0) rfl jm_MD_personMany_n jm_MD_personMany_f rfl rfl rfl rfl rfl rfl rfl (Nat.zero_le _) (Nat.zero_le _) ?_
            show jx_W (jm_MD_personMany, _, _, _, _, _, _) _ 0 0 0 [some _] [] _
            refine jr_aload rfl rfl ?_
            refine jr_getR rfl rfl rfl rfl (Or.inl rfl) ?_
            refine jr_aload rfl rfl ?_
            refine jr_getI rfl rfl ?_
            refine jr_iald (len := 2) rfl rfl hw.1 (by omega) ?_
            refine jr_iret rfl rfl (Nat.zero_le _) (Nat.zero_le _) ?_
            refine jr_ic rfl ?_
            refine jr_isub rfl ?_
            refine jr_cs3 (mc' := 0) (ms' := 0) rfl jm_MD_isIn_n jm_MD_isIn_f rfl rfl rfl rfl rfl (Nat.zero_le _) (Nat.zero_le _) ?_
            show jx_W (jm_MD_isIn, _, _, _, _, _, _) _ 0 0 0 [some _, some _, some _] [] _
            refine jr_iload rfl rfl ?_
            refine jr_iload rfl rfl ?_
            refine jr_icmp_lt rfl (fun m2MDisIn => ?_) (fun m2MDisIn => ?_)
            · refine jr_ic rfl ?_
              refine jr_zret rfl rfl rfl (Nat.zero_le _) (Nat.zero_le _) ?_
              refine jr_zret rfl rfl rfl (Nat.zero_le _) (Nat.zero_le _) ?_
              refine jr_if_eq rfl (fun _ => ?_) (fun z => absurd (by decide) z)
              refine jr_ic rfl ?_
              refine jr_iret rfl rfl (Nat.zero_le _) (Nat.zero_le _) ?_
              first
                | exact ⟨rfl, hRel0⟩
                | (exfalso; omega)
                | (exfalso; simp (disch := omega) only [Int32.lt_iff_toInt_lt, Int32.le_iff_toInt_le, ← Int32.toInt_inj, Int32.reduceToInt, nI_toInt] at c1RephasPerson c5RephasPerson c1JVisSet c6JVisSet m2MDisIn; done)
                | (exfalso; simp (disch := omega) only [Int32.lt_iff_toInt_lt, Int32.le_iff_toInt_le, ← Int32.toInt_inj, Int32.reduceToInt, nI_toInt] at c1RephasPerson c5RephasPerson c1JVisSet c6JVisSet m2MDisIn; omega)
            · refine jr_iload rfl rfl ?_
              refine jr_iload rfl rfl ?_
              refine jr_icmp_gt rfl (fun m5MDisIn => ?_) (fun m5MDisIn => ?_)
              · refine jr_ic rfl ?_
                refine jr_zret rfl rfl rfl (Nat.zero_le _) (Nat.zero_le _) ?_
                refine jr_zret rfl rfl rfl (Nat.zero_le _) (Nat.zero_le _) ?_
                refine jr_if_eq rfl (fun _ => ?_) (fun z => absurd (by decide) z)
                refine jr_ic rfl ?_
                refine jr_iret rfl rfl (Nat.zero_le _) (Nat.zero_le _) ?_
                first
                  | exact ⟨rfl, hRel0⟩
                  | (exfalso; omega)
                  | (exfalso; simp (disch := omega) only [Int32.lt_iff_toInt_lt, Int32.le_iff_toInt_le, ← Int32.toInt_inj, Int32.reduceToInt, nI_toInt] at c1RephasPerson c5RephasPerson c1JVisSet c6JVisSet m2MDisIn m5MDisIn; done)
                  | (exfalso; simp (disch := omega) only [Int32.lt_iff_toInt_lt, Int32.le_iff_toInt_le, ← Int32.toInt_inj, Int32.reduceToInt, nI_toInt] at c1RephasPerson c5RephasPerson c1JVisSet c6JVisSet m2MDisIn m5MDisIn; omega)
              · refine jr_ic rfl ?_
                refine jr_goto rfl ?_
                refine jr_zret rfl rfl rfl (Nat.zero_le _) (Nat.zero_le _) ?_
                refine jr_zret rfl rfl rfl (Nat.zero_le _) (Nat.zero_le _) ?_
                refine jr_if_eq rfl (fun z => absurd z (by decide)) (fun _ => ?_)
                refine jr_iload rfl rfl ?_
                refine jr_if_lt rfl (fun m5 => ?_) (fun m5 => ?_)
                · refine jr_ic rfl ?_
                  refine jr_iret rfl rfl (Nat.zero_le _) (Nat.zero_le _) ?_
                  first
                    | exact ⟨rfl, hRel0⟩
                    | (exfalso; omega)
                    | (exfalso; simp (disch := omega) only [Int32.lt_iff_toInt_lt, Int32.le_iff_toInt_le, ← Int32.toInt_inj, Int32.reduceToInt, nI_toInt] at c1RephasPerson c5RephasPerson c1JVisSet c6JVisSet m2MDisIn m5MDisIn m5; done)
                    | (exfalso; simp (disch := omega) only [Int32.lt_iff_toInt_lt, Int32.le_iff_toInt_le, ← Int32.toInt_inj, Int32.reduceToInt, nI_toInt] at c1RephasPerson c5RephasPerson c1JVisSet c6JVisSet m2MDisIn m5MDisIn m5; omega)
                · refine jr_iload rfl rfl ?_
                  refine jr_ic rfl ?_
                  refine jr_aload rfl rfl ?_
                  refine jr_cv0 (mc' := 0) (ms' := 0) rfl jm_MD_dueMany_n jm_MD_dueMany_f rfl rfl rfl rfl rfl rfl rfl (Nat.zero_le _) (Nat.zero_le _) ?_
                  show jx_W (jm_MD_dueMany, _, _, _, _, _, _) _ 0 0 0 [some _] [] _
                  refine jr_aload rfl rfl ?_
                  refine jr_getR rfl rfl rfl rfl (Or.inl rfl) ?_
                  refine jr_aload rfl rfl ?_
                  refine jr_getI rfl rfl ?_
                  refine jr_iald (len := 2) rfl rfl hw.1 (by omega) ?_
                  refine jr_iret rfl rfl (Nat.zero_le _) (Nat.zero_le _) ?_
                  refine jr_ishl rfl ?_
                  refine jr_icmp_lt rfl (fun m11 => ?_) (fun m11 => ?_)
                  · refine jr_ic rfl ?_
                    refine jr_ist3 rfl rfl ?_
                    refine jr_ic rfl ?_
                    refine jr_ist4 rfl rfl ?_
                    first
                      | (exfalso; omega)
                      | (exfalso; simp (disch := omega) only [Int32.lt_iff_toInt_lt, Int32.le_iff_toInt_le, ← Int32.toInt_inj, Int32.reduceToInt, nI_toInt] at c1RephasPerson c5RephasPerson c1JVisSet c6JVisSet m2MDisIn m5MDisIn m5 m11; done)
                      | (exfalso; simp (disch := omega) only [Int32.lt_iff_toInt_lt, Int32.le_iff_toInt_le, ← Int32.toInt_inj, Int32.reduceToInt, nI_toInt] at c1RephasPerson c5RephasPerson c1JVisSet c6JVisSet m2MDisIn m5MDisIn m5 m11; omega)
                  · refine jr_ic rfl ?_
                    refine jr_iret rfl rfl (Nat.zero_le _) (Nat.zero_le _) ?_
                    first
                      | exact ⟨rfl, hRel0⟩
                      | (exfalso; omega)
                      | (exfalso; simp (disch := omega) only [Int32.lt_iff_toInt_lt, Int32.le_iff_toInt_le, ← Int32.toInt_inj, Int32.reduceToInt, nI_toInt] at c1RephasPerson c5RephasPerson c1JVisSet c6JVisSet m2MDisIn m5MDisIn m5 m11; done)
                      | (exfalso; simp (disch := omega) only [Int32.lt_iff_toInt_lt, Int32.le_iff_toInt_le, ← Int32.toInt_inj, Int32.reduceToInt, nI_toInt] at c1RephasPerson c5RephasPerson c1JVisSet c6JVisSet m2MDisIn m5MDisIn m5 m11; omega)
          · refine jr_ic rfl ?_
            refine jr_goto rfl ?_
            refine jr_zret rfl rfl rfl (Nat.zero_le _) (Nat.zero_le _) ?_
            refine jr_if_ne rfl (fun _ => ?_) (fun z => absurd z (by decide))
            refine jr_aload rfl rfl ?_
            refine jr_getR rfl rfl rfl rfl (Or.inl rfl) ?_
            refine jr_iload rfl rfl ?_
            refine jr_iload rfl rfl ?_
            refine jr_cv2 (mc' := 0) (ms' := 0) rfl jm_Cal_netOf_n jm_Cal_netOf_f rfl rfl rfl rfl rfl rfl rfl (Nat.zero_le _) (Nat.zero_le _) ?_
            refine ev_netOf hw.2.2.1 hA.1 hR ?_
            refine jr_iret rfl rfl (Nat.zero_le _) (Nat.zero_le _) ?_
            show jx_W (jm_MD_net, d + 40, 0, 0, false, 1, _) _ 0 0 0 [some _, some _, some _, none, none, none] [] _
            refine jr_aload rfl rfl ?_
            refine jr_iload rfl rfl ?_
            refine jr_cv1 (mc' := 0) (ms' := 0) rfl jm_MD_isPerson_n jm_MD_isPerson_f rfl rfl rfl rfl rfl rfl rfl (Nat.zero_le _) (Nat.zero_le _) ?_
            show jx_W (jm_MD_isPerson, _, _, _, _, _, _) _ 0 0 0 [some _, some _] [] _
            refine jr_iload rfl rfl ?_
            refine jr_ic rfl ?_
            refine jr_aload rfl rfl ?_
            refine jr_cv0 (mc' := 0) (ms' := 0) rfl jm_MD_personMany_n jm_MD_personMany_f rfl rfl rfl rfl rfl rfl rfl (Nat.zero_le _) (Nat.zero_le _) ?_
            show jx_W (jm_MD_personMany, _, _, _, _, _, _) _ 0 0 0 [some _] [] _
            refine jr_aload rfl rfl ?_
            refine jr_getR rfl rfl rfl rfl (Or.inl rfl) ?_
            refine jr_aload rfl rfl ?_
            refine jr_getI rfl rfl ?_
            refine jr_iald (len := 2) rfl rfl hw.1 (by omega) ?_
            refine jr_iret rfl rfl (Nat.zero_le _) (Nat.zero_le _) ?_
            refine jr_ic rfl ?_
            refine jr_isub rfl ?_
            refine jr_cs3 (mc' := 0) (ms' := 0) rfl jm_MD_isIn_n jm_MD_isIn_f rfl rfl rfl rfl rfl (Nat.zero_le _) (Nat.zero_le _) ?_
            show jx_W (jm_MD_isIn, _, _, _, _, _, _) _ 0 0 0 [some _, some _, some _] [] _
            refine jr_iload rfl rfl ?_
            refine jr_iload rfl rfl ?_
            refine jr_icmp_lt rfl (fun m2MDisIn => ?_) (fun m2MDisIn => ?_)
            · refine jr_ic rfl ?_
              refine jr_zret rfl rfl rfl (Nat.zero_le _) (Nat.zero_le _) ?_
              refine jr_zret rfl rfl rfl (Nat.zero_le _) (Nat.zero_le _) ?_
              refine jr_if_eq rfl (fun _ => ?_) (fun z => absurd (by decide) z)
              refine jr_ic rfl ?_
              refine jr_iret rfl rfl (Nat.zero_le _) (Nat.zero_le _) ?_
              first
                | exact ⟨rfl, hRel0⟩
                | (exfalso; omega)
                | (exfalso; simp (disch := omega) only [Int32.lt_iff_toInt_lt, Int32.le_iff_toInt_le, ← Int32.toInt_inj, Int32.reduceToInt, nI_toInt] at c1RephasPerson c5RephasPerson c1JVisSet c6JVisSet m2MDisIn; done)
                | (exfalso; simp (disch := omega) only [Int32.lt_iff_toInt_lt, Int32.le_iff_toInt_le, ← Int32.toInt_inj, Int32.reduceToInt, nI_toInt] at c1RephasPerson c5RephasPerson c1JVisSet c6JVisSet m2MDisIn; omega)
            · refine jr_iload rfl rfl ?_
              refine jr_iload rfl rfl ?_
              refine jr_icmp_gt rfl (fun m5MDisIn => ?_) (fun m5MDisIn => ?_)
              · refine jr_ic rfl ?_
                refine jr_zret rfl rfl rfl (Nat.zero_le _) (Nat.zero_le _) ?_
                refine jr_zret rfl rfl rfl (Nat.zero_le _) (Nat.zero_le _) ?_
                refine jr_if_eq rfl (fun _ => ?_) (fun z => absurd (by decide) z)
                refine jr_ic rfl ?_
                refine jr_iret rfl rfl (Nat.zero_le _) (Nat.zero_le _) ?_
                first
                  | exact ⟨rfl, hRel0⟩
                  | (exfalso; omega)
                  | (exfalso; simp (disch := omega) only [Int32.lt_iff_toInt_lt, Int32.le_iff_toInt_le, ← Int32.toInt_inj, Int32.reduceToInt, nI_toInt] at c1RephasPerson c5RephasPerson c1JVisSet c6JVisSet m2MDisIn m5MDisIn; done)
                  | (exfalso; simp (disch := omega) only [Int32.lt_iff_toInt_lt, Int32.le_iff_toInt_le, ← Int32.toInt_inj, Int32.reduceToInt, nI_toInt] at c1RephasPerson c5RephasPerson c1JVisSet c6JVisSet m2MDisIn m5MDisIn; omega)
              · refine jr_ic rfl ?_
                refine jr_goto rfl ?_
                refine jr_zret rfl rfl rfl (Nat.zero_le _) (Nat.zero_le _) ?_
                refine jr_zret rfl rfl rfl (Nat.zero_le _) (Nat.zero_le _) ?_
                refine jr_if_eq rfl (fun z => absurd z (by decide)) (fun _ => ?_)
                refine jr_iload rfl rfl ?_
                refine jr_if_lt rfl (fun m5 => ?_) (fun m5 => ?_)
                · refine jr_ic rfl ?_
                  refine jr_iret rfl rfl (Nat.zero_le _) (Nat.zero_le _) ?_
                  first
                    | exact ⟨rfl, hRel0⟩
                    | (exfalso; omega)
                    | (exfalso; simp (disch := omega) only [Int32.lt_iff_toInt_lt, Int32.le_iff_toInt_le, ← Int32.toInt_inj, Int32.reduceToInt, nI_toInt] at c1RephasPerson c5RephasPerson c1JVisSet c6JVisSet m2MDisIn m5MDisIn m5; done)
                    | (exfalso; simp (disch := omega) only [Int32.lt_iff_toInt_lt, Int32.le_iff_toInt_le, ← Int32.toInt_inj, Int32.reduceToInt, nI_toInt] at c1RephasPerson c5RephasPerson c1JVisSet c6JVisSet m2MDisIn m5MDisIn m5; omega)
                · refine jr_iload rfl rfl ?_
                  refine jr_ic rfl ?_
                  refine jr_aload rfl rfl ?_
                  refine jr_cv0 (mc' := 0) (ms' := 0) rfl jm_MD_dueMany_n jm_MD_dueMany_f rfl rfl rfl rfl rfl rfl rfl (Nat.zero_le _) (Nat.zero_le _) ?_
                  show jx_W (jm_MD_dueMany, _, _, _, _, _, _) _ 0 0 0 [some _] [] _
                  refine jr_aload rfl rfl ?_
                  refine jr_getR rfl rfl rfl rfl (Or.inl rfl) ?_
                  refine jr_aload rfl rfl ?_
                  refine jr_getI rfl rfl ?_
                  refine jr_iald (len := 2) rfl rfl hw.1 (by omega) ?_
                  refine jr_iret rfl rfl (Nat.zero_le _) (Nat.zero_le _) ?_
                  refine jr_ishl rfl ?_
                  refine jr_icmp_lt rfl (fun m11 => ?_) (fun m11 => ?_)
                  · refine jr_ic rfl ?_
                    refine jr_ist3 rfl rfl ?_
                    refine jr_ic rfl ?_
                    refine jr_ist4 rfl rfl ?_
                    exact lp_MD_net 0 hw.1 hw.2.1 hw.2.2.1 (Nat.zero_le _) ⟨rfl, hRel0⟩
                  · refine jr_ic rfl ?_
                    refine jr_iret rfl rfl (Nat.zero_le _) (Nat.zero_le _) ?_
                    first
                      | exact ⟨rfl, hRel0⟩
                      | (exfalso; omega)
                      | (exfalso; simp (disch := omega) only [Int32.lt_iff_toInt_lt, Int32.le_iff_toInt_le, ← Int32.toInt_inj, Int32.reduceToInt, nI_toInt] at c1RephasPerson c5RephasPerson c1JVisSet c6JVisSet m2MDisIn m5MDisIn m5 m11; done)
                      | (exfalso; simp (disch := omega) only [Int32.lt_iff_toInt_lt, Int32.le_iff_toInt_le, ← Int32.toInt_inj, Int32.reduceToInt, nI_toInt] at c1RephasPerson c5RephasPerson c1JVisSet c6JVisSet m2MDisIn m5MDisIn m5 m11; omega)
  · show jx_W (jm_JV_net, d + 40, 0, 0, false, 0, _) _ 0 0 0 [some (jv_r 10 0), some (jv_i x), some (jv_i y)] [] _
    refine jr_aload rfl rfl ?_
    refine jr_getM rfl rfl rfl rfl hto ?_
    refine jr_iload rfl rfl ?_
    refine jr_cv1 (mc' := 0) (ms' := 0) rfl jm_Rep_hasPerson_n jm_Rep_hasPerson_f rfl rfl rfl rfl rfl rfl rfl (Nat.zero_le _) (Nat.zero_le _) ?_
    show jx_W (jm_Rep_hasPerson, _, _, _, _, _, _) _ 0 0 0 [some _, some _] [] _
    refine jr_iload rfl rfl ?_
    refine jr_if_lt rfl (fun c1RephasPerson => ?_) (fun c1RephasPerson => ?_)
    · refine jr_ic rfl ?_
      refine jr_zret rfl rfl rfl (Nat.zero_le _) (Nat.zero_le _) ?_
      refine jr_if_eq rfl (fun _ => ?_) (fun z => absurd (by decide) z)
      refine jr_ic rfl ?_
      refine jr_iret rfl rfl (Nat.zero_le _) (Nat.zero_le _) ?_
      show jx_W (jm_MD_net, d + 40, 0, 0, false, 1, _) _ 0 0 0 [some _, some _, some _, none, none, none] [] _
      refine jr_aload rfl rfl ?_
      refine jr_iload rfl rfl ?_
      refine jr_cv1 (mc' := 0) (ms' := 0) rfl jm_MD_isPerson_n jm_MD_isPerson_f rfl rfl rfl rfl rfl rfl rfl (Nat.zero_le _) (Nat.zero_le _) ?_
      show jx_W (jm_MD_isPerson, _, _, _, _, _, _) _ 0 0 0 [some _, some _] [] _
      refine jr_iload rfl rfl ?_
      refine jr_ic rfl ?_
      refine jr_aload rfl rfl ?_
      refine jr_cv0 (mc' := 0) (ms' := 0) rfl jm_MD_personMany_n jm_MD_personMany_f rfl rfl rfl rfl rfl rfl rfl (Nat.zero_le _) (Nat.zero_le _) ?_
      show jx_W (jm_MD_personMany, _, _, _, _, _, _) _ 0 0 0 [some _] [] _
      refine jr_aload rfl rfl ?_
      refine jr_getR rfl rfl rfl rfl (Or.inl rfl) ?_
      refine jr_aload rfl rfl ?_
      refine jr_getI rfl rfl ?_
      refine jr_iald (len := 2) rfl rfl hw.1 (by omega) ?_
      refine jr_iret rfl rfl (Nat.zero_le _) (Nat.zero_le _) ?_
      refine jr_ic rfl ?_
      refine jr_isub rfl ?_
      refine jr_cs3 (mc' := 0) (ms' := 0) rfl jm_MD_isIn_n jm_MD_isIn_f rfl rfl rfl rfl rfl (Nat.zero_le _) (Nat.zero_le _) ?_
      show jx_W (jm_MD_isIn, _, _, _, _, _, _) _ 0 0 0 [some _, some _, some _] [] _
      refine jr_iload rfl rfl ?_
      refine jr_iload rfl rfl ?_
      refine jr_icmp_lt rfl (fun m2MDisIn => ?_) (fun m2MDisIn => ?_)
      · refine jr_ic rfl ?_
        refine jr_zret rfl rfl rfl (Nat.zero_le _) (Nat.zero_le _) ?_
        refine jr_zret rfl rfl rfl (Nat.zero_le _) (Nat.zero_le _) ?_
        refine jr_if_eq rfl (fun _ => ?_) (fun z => absurd (by decide) z)
        refine jr_ic rfl ?_
        refine jr_iret rfl rfl (Nat.zero_le _) (Nat.zero_le _) ?_
        first
          | exact ⟨rfl, hRel0⟩
          | (exfalso; omega)
          | (exfalso; simp (disch := omega) only [Int32.lt_iff_toInt_lt, Int32.le_iff_toInt_le, ← Int32.toInt_inj, Int32.reduceToInt, nI_toInt] at c1RephasPerson m2MDisIn; done)
          | (exfalso; simp (disch := omega) only [Int32.lt_iff_toInt_lt, Int32.le_iff_toInt_le, ← Int32.toInt_inj, Int32.reduceToInt, nI_toInt] at c1RephasPerson m2MDisIn; omega)
      · refine jr_iload rfl rfl ?_
        refine jr_iload rfl rfl ?_
        refine jr_icmp_gt rfl (fun m5MDisIn => ?_) (fun m5MDisIn => ?_)
        · refine jr_ic rfl ?_
          refine jr_zret rfl rfl rfl (Nat.zero_le _) (Nat.zero_le _) ?_
          refine jr_zret rfl rfl rfl (Nat.zero_le _) (Nat.zero_le _) ?_
          refine jr_if_eq rfl (fun _ => ?_) (fun z => absurd (by decide) z)
          refine jr_ic rfl ?_
          refine jr_iret rfl rfl (Nat.zero_le _) (Nat.zero_le _) ?_
          first
            | exact ⟨rfl, hRel0⟩
            | (exfalso; omega)
            | (exfalso; simp (disch := omega) only [Int32.lt_iff_toInt_lt, Int32.le_iff_toInt_le, ← Int32.toInt_inj, Int32.reduceToInt, nI_toInt] at c1RephasPerson m2MDisIn m5MDisIn; done)
            | (exfalso; simp (disch := omega) only [Int32.lt_iff_toInt_lt, Int32.le_iff_toInt_le, ← Int32.toInt_inj, Int32.reduceToInt, nI_toInt] at c1RephasPerson m2MDisIn m5MDisIn; omega)
        · refine jr_ic rfl ?_
          refine jr_goto rfl ?_
          refine jr_zret rfl rfl rfl (Nat.zero_le _) (Nat.zero_le _) ?_
          refine jr_zret rfl rfl rfl (Nat.zero_le _) (Nat.zero_le _) ?_
          refine jr_if_eq rfl (fun z => absurd z (by decide)) (fun _ => ?_)
          refine jr_iload rfl rfl ?_
          refine jr_if_lt rfl (fun m5 => ?_) (fun m5 => ?_)
          · refine jr_ic rfl ?_
            refine jr_iret rfl rfl (Nat.zero_le _) (Nat.zero_le _) ?_
            first
              | exact ⟨rfl, hRel0⟩
              | (exfalso; omega)
              | (exfalso; simp (disch := omega) only [Int32.lt_iff_toInt_lt, Int32.le_iff_toInt_le, ← Int32.toInt_inj, Int32.reduceToInt, nI_toInt] at c1RephasPerson m2MDisIn m5MDisIn m5; done)
              | (exfalso; simp (disch := omega) only [Int32.lt_iff_toInt_lt, Int32.le_iff_toInt_le, ← Int32.toInt_inj, Int32.reduceToInt, nI_toInt] at c1RephasPerson m2MDisIn m5MDisIn m5; omega)
          · refine jr_iload rfl rfl ?_
            refine jr_ic rfl ?_
            refine jr_aload rfl rfl ?_
            refine jr_cv0 (mc' := 0) (ms' := 0) rfl jm_MD_dueMany_n jm_MD_dueMany_f rfl rfl rfl rfl rfl rfl rfl (Nat.zero_le _) (Nat.zero_le _) ?_
            show jx_W (jm_MD_dueMany, _, _, _, _, _, _) _ 0 0 0 [some _] [] _
            refine jr_aload rfl rfl ?_
            refine jr_getR rfl rfl rfl rfl (Or.inl rfl) ?_
            refine jr_aload rfl rfl ?_
            refine jr_getI rfl rfl ?_
            refine jr_iald (len := 2) rfl rfl hw.1 (by omega) ?_
            refine jr_iret rfl rfl (Nat.zero_le _) (Nat.zero_le _) ?_
            refine jr_ishl rfl ?_
            refine jr_icmp_lt rfl (fun m11 => ?_) (fun m11 => ?_)
            · refine jr_ic rfl ?_
              refine jr_ist3 rfl rfl ?_
              refine jr_ic rfl ?_
              refine jr_ist4 rfl rfl ?_
              first
                | (exfalso; omega)
                | (exfalso; simp (disch := omega) only [Int32.lt_iff_toInt_lt, Int32.le_iff_toInt_le, ← Int32.toInt_inj, Int32.reduceToInt, nI_toInt] at c1RephasPerson m2MDisIn m5MDisIn m5 m11; done)
                | (exfalso; simp (disch := omega) only [Int32.lt_iff_toInt_lt, Int32.le_iff_toInt_le, ← Int32.toInt_inj, Int32.reduceToInt, nI_toInt] at c1RephasPerson m2MDisIn m5MDisIn m5 m11; omega)
            · refine jr_ic rfl ?_
              refine jr_iret rfl rfl (Nat.zero_le _) (Nat.zero_le _) ?_
              first
                | exact ⟨rfl, hRel0⟩
                | (exfalso; omega)
                | (exfalso; simp (disch := omega) only [Int32.lt_iff_toInt_lt, Int32.le_iff_toInt_le, ← Int32.toInt_inj, Int32.reduceToInt, nI_toInt] at c1RephasPerson m2MDisIn m5MDisIn m5 m11; done)
                | (exfalso; simp (disch := omega) only [Int32.lt_iff_toInt_lt, Int32.le_iff_toInt_le, ← Int32.toInt_inj, Int32.reduceToInt, nI_toInt] at c1RephasPerson m2MDisIn m5MDisIn m5 m11; omega)
    · refine jr_iload rfl rfl ?_
      refine jr_aload rfl rfl ?_
      refine jr_getI rfl rfl ?_
      refine jr_icmp_ge rfl (fun c5RephasPerson => ?_) (fun c5RephasPerson => ?_)
      · refine jr_ic rfl ?_
        refine jr_zret rfl rfl rfl (Nat.zero_le _) (Nat.zero_le _) ?_
        refine jr_if_eq rfl (fun _ => ?_) (fun z => absurd (by decide) z)
        refine jr_ic rfl ?_
        refine jr_iret rfl rfl (Nat.zero_le _) (Nat.zero_le _) ?_
        show jx_W (jm_MD_net, d + 40, 0, 0, false, 1, _) _ 0 0 0 [some _, some _, some _, none, none, none] [] _
        refine jr_aload rfl rfl ?_
        refine jr_iload rfl rfl ?_
        refine jr_cv1 (mc' := 0) (ms' := 0) rfl jm_MD_isPerson_n jm_MD_isPerson_f rfl rfl rfl rfl rfl rfl rfl (Nat.zero_le _) (Nat.zero_le _) ?_
        show jx_W (jm_MD_isPerson, _, _, _, _, _, _) _ 0 0 0 [some _, some _] [] _
        refine jr_iload rfl rfl ?_
        refine jr_ic rfl ?_
        refine jr_aload rfl rfl ?_
        refine jr_cv0 (mc' := 0) (ms' := 0) rfl jm_MD_personMany_n jm_MD_personMany_f rfl rfl rfl rfl rfl rfl rfl (Nat.zero_le _) (Nat.zero_le _) ?_
        show jx_W (jm_MD_personMany, _, _, _, _, _, _) _ 0 0 0 [some _] [] _
        refine jr_aload rfl rfl ?_
        refine jr_getR rfl rfl rfl rfl (Or.inl rfl) ?_
        refine jr_aload rfl rfl ?_
        refine jr_getI rfl rfl ?_
        refine jr_iald (len := 2) rfl rfl hw.1 (by omega) ?_
        refine jr_iret rfl rfl (Nat.zero_le _) (Nat.zero_le _) ?_
        refine jr_ic rfl ?_
        refine jr_isub rfl ?_
        refine jr_cs3 (mc' := 0) (ms' := 0) rfl jm_MD_isIn_n jm_MD_isIn_f rfl rfl rfl rfl rfl (Nat.zero_le _) (Nat.zero_le _) ?_
        show jx_W (jm_MD_isIn, _, _, _, _, _, _) _ 0 0 0 [some _, some _, some _] [] _
        refine jr_iload rfl rfl ?_
        refine jr_iload rfl rfl ?_
        refine jr_icmp_lt rfl (fun m2MDisIn => ?_) (fun m2MDisIn => ?_)
        · refine jr_ic rfl ?_
          refine jr_zret rfl rfl rfl (Nat.zero_le _) (Nat.zero_le _) ?_
          refine jr_zret rfl rfl rfl (Nat.zero_le _) (Nat.zero_le _) ?_
          refine jr_if_eq rfl (fun _ => ?_) (fun z => absurd (by decide) z)
          refine jr_ic rfl ?_
          refine jr_iret rfl rfl (Nat.zero_le _) (Nat.zero_le _) ?_
          first
            | exact ⟨rfl, hRel0⟩
            | (exfalso; omega)
            | (exfalso; simp (disch := omega) only [Int32.lt_iff_toInt_lt, Int32.le_iff_toInt_le, ← Int32.toInt_inj, Int32.reduceToInt, nI_toInt] at c1RephasPerson c5RephasPerson m2MDisIn; done)
            | (exfalso; simp (disch := omega) only [Int32.lt_iff_toInt_lt, Int32.le_iff_toInt_le, ← Int32.toInt_inj, Int32.reduceToInt, nI_toInt] at c1RephasPerson c5RephasPerson m2MDisIn; omega)
        · refine jr_iload rfl rfl ?_
          refine jr_iload rfl rfl ?_
          refine jr_icmp_gt rfl (fun m5MDisIn => ?_) (fun m5MDisIn => ?_)
          · refine jr_ic rfl ?_
            refine jr_zret rfl rfl rfl (Nat.zero_le _) (Nat.zero_le _) ?_
            refine jr_zret rfl rfl rfl (Nat.zero_le _) (Nat.zero_le _) ?_
            refine jr_if_eq rfl (fun _ => ?_) (fun z => absurd (by decide) z)
            refine jr_ic rfl ?_
            refine jr_iret rfl rfl (Nat.zero_le _) (Nat.zero_le _) ?_
            first
              | exact ⟨rfl, hRel0⟩
              | (exfalso; omega)
              | (exfalso; simp (disch := omega) only [Int32.lt_iff_toInt_lt, Int32.le_iff_toInt_le, ← Int32.toInt_inj, Int32.reduceToInt, nI_toInt] at c1RephasPerson c5RephasPerson m2MDisIn m5MDisIn; done)
              | (exfalso; simp (disch := omega) only [Int32.lt_iff_toInt_lt, Int32.le_iff_toInt_le, ← Int32.toInt_inj, Int32.reduceToInt, nI_toInt] at c1RephasPerson c5RephasPerson m2MDisIn m5MDisIn; omega)
          · refine jr_ic rfl ?_
            refine jr_goto rfl ?_
            refine jr_zret rfl rfl rfl (Nat.zero_le _) (Nat.zero_le _) ?_
            refine jr_zret rfl rfl rfl (Nat.zero_le _) (Nat.zero_le _) ?_
            refine jr_if_eq rfl (fun z => absurd z (by decide)) (fun _ => ?_)
            refine jr_iload rfl rfl ?_
            refine jr_if_lt rfl (fun m5 => ?_) (fun m5 => ?_)
            · refine jr_ic rfl ?_
              refine jr_iret rfl rfl (Nat.zero_le _) (Nat.zero_le _) ?_
              first
                | exact ⟨rfl, hRel0⟩
                | (exfalso; omega)
                | (exfalso; simp (disch := omega) only [Int32.lt_iff_toInt_lt, Int32.le_iff_toInt_le, ← Int32.toInt_inj, Int32.reduceToInt, nI_toInt] at c1RephasPerson c5RephasPerson m2MDisIn m5MDisIn m5; done)
                | (exfalso; simp (disch := omega) only [Int32.lt_iff_toInt_lt, Int32.le_iff_toInt_le, ← Int32.toInt_inj, Int32.reduceToInt, nI_toInt] at c1RephasPerson c5RephasPerson m2MDisIn m5MDisIn m5; omega)
            · refine jr_iload rfl rfl ?_
              refine jr_ic rfl ?_
              refine jr_aload rfl rfl ?_
              refine jr_cv0 (mc' := 0) (ms' := 0) rfl jm_MD_dueMany_n jm_MD_dueMany_f rfl rfl rfl rfl rfl rfl rfl (Nat.zero_le _) (Nat.zero_le _) ?_
              show jx_W (jm_MD_dueMany, _, _, _, _, _, _) _ 0 0 0 [some _] [] _
              refine jr_aload rfl rfl ?_
              refine jr_getR rfl rfl rfl rfl (Or.inl rfl) ?_
              refine jr_aload rfl rfl ?_
              refine jr_getI rfl rfl ?_
              refine jr_iald (len := 2) rfl rfl hw.1 (by omega) ?_
              refine jr_iret rfl rfl (Nat.zero_le _) (Nat.zero_le _) ?_
              refine jr_ishl rfl ?_
              refine jr_icmp_lt rfl (fun m11 => ?_) (fun m11 => ?_)
              · refine jr_ic rfl ?_
                refine jr_ist3 rfl rfl ?_
                refine jr_ic rfl ?_
                refine jr_ist4 rfl rfl ?_
                first
                  | (exfalso; omega)
                  | (exfalso; simp (disch := omega) only [Int32.lt_iff_toInt_lt, Int32.le_iff_toInt_le, ← Int32.toInt_inj, Int32.reduceToInt, nI_toInt] at c1RephasPerson c5RephasPerson m2MDisIn m5MDisIn m5 m11; done)
                  | (exfalso; simp (disch := omega) only [Int32.lt_iff_toInt_lt, Int32.le_iff_toInt_le, ← Int32.toInt_inj, Int32.reduceToInt, nI_toInt] at c1RephasPerson c5RephasPerson m2MDisIn m5MDisIn m5 m11; omega)
              · refine jr_ic rfl ?_
                refine jr_iret rfl rfl (Nat.zero_le _) (Nat.zero_le _) ?_
                first
                  | exact ⟨rfl, hRel0⟩
                  | (exfalso; omega)
                  | (exfalso; simp (disch := omega) only [Int32.lt_iff_toInt_lt, Int32.le_iff_toInt_le, ← Int32.toInt_inj, Int32.reduceToInt, nI_toInt] at c1RephasPerson c5RephasPerson m2MDisIn m5MDisIn m5 m11; done)
                  | (exfalso; simp (disch := omega) only [Int32.lt_iff_toInt_lt, Int32.le_iff_toInt_le, ← Int32.toInt_inj, Int32.reduceToInt, nI_toInt] at c1RephasPerson c5RephasPerson m2MDisIn m5MDisIn m5 m11; omega)
      · refine jr_ic rfl ?_
        refine jr_goto rfl ?_
        refine jr_zret rfl rfl rfl (Nat.zero_le _) (Nat.zero_le _) ?_
        refine jr_if_eq rfl (fun z => absurd z (by decide)) (fun _ => ?_)
        refine jr_iload rfl rfl ?_
        refine jr_aload rfl rfl ?_
        refine jr_getM rfl rfl rfl rfl hto ?_
        refine jr_getI rfl rfl ?_
        refine jr_cs2 (mc' := 0) (ms' := 0) rfl jm_JV_isSet_n jm_JV_isSet_f rfl rfl rfl rfl rfl (Nat.zero_le _) (Nat.zero_le _) ?_
        show jx_W (jm_JV_isSet, _, _, _, _, _, _) _ 0 0 0 [some _, some _] [] _
        refine jr_iload rfl rfl ?_
        refine jr_if_lt rfl (fun c1JVisSet => ?_) (fun c1JVisSet => ?_)
        · refine jr_ic rfl ?_
          refine jr_zret rfl rfl rfl (Nat.zero_le _) (Nat.zero_le _) ?_
          refine jr_if_ne rfl (fun z => absurd (by decide) z) (fun _ => ?_)
          refine jr_ic rfl ?_
          refine jr_iret rfl rfl (Nat.zero_le _) (Nat.zero_le _) ?_
          show jx_W (jm_MD_net, d + 40, 0, 0, false, 1, _) _ 0 0 0 [some _, some _, some _, none, none, none] [] _
          refine jr_aload rfl rfl ?_
          refine jr_iload rfl rfl ?_
          refine jr_cv1 (mc' := 0) (ms' := 0) rfl jm_MD_isPerson_n jm_MD_isPerson_f rfl rfl rfl rfl rfl rfl rfl (Nat.zero_le _) (Nat.zero_le _) ?_
          show jx_W (jm_MD_isPerson, _, _, _, _, _, _) _ 0 0 0 [some _, some _] [] _
          refine jr_iload rfl rfl ?_
          refine jr_ic rfl ?_
          refine jr_aload rfl rfl ?_
          refine jr_cv0 (mc' := 0) (ms' := 0) rfl jm_MD_personMany_n jm_MD_personMany_f rfl rfl rfl rfl rfl rfl rfl (Nat.zero_le _) (Nat.zero_le _) ?_
          show jx_W (jm_MD_personMany, _, _, _, _, _, _) _ 0 0 0 [some _] [] _
          refine jr_aload rfl rfl ?_
          refine jr_getR rfl rfl rfl rfl (Or.inl rfl) ?_
          refine jr_aload rfl rfl ?_
          refine jr_getI rfl rfl ?_
          refine jr_iald (len := 2) rfl rfl hw.1 (by omega) ?_
          refine jr_iret rfl rfl (Nat.zero_le _) (Nat.zero_le _) ?_
          refine jr_ic rfl ?_
          refine jr_isub rfl ?_
          refine jr_cs3 (mc' := 0) (ms' := 0) rfl jm_MD_isIn_n jm_MD_isIn_f rfl rfl rfl rfl rfl (Nat.zero_le _) (Nat.zero_le _) ?_
          show jx_W (jm_MD_isIn, _, _, _, _, _, _) _ 0 0 0 [some _, some _, some _] [] _
          refine jr_iload rfl rfl ?_
          refine jr_iload rfl rfl ?_
          refine jr_icmp_lt rfl (fun m2MDisIn => ?_) (fun m2MDisIn => ?_)
          · refine jr_ic rfl ?_
            refine jr_zret rfl rfl rfl (Nat.zero_le _) (Nat.zero_le _) ?_
            refine jr_zret rfl rfl rfl (Nat.zero_le _) (Nat.zero_le _) ?_
            refine jr_if_eq rfl (fun _ => ?_) (fun z => absurd (by decide) z)
            refine jr_ic rfl ?_
            refine jr_iret rfl rfl (Nat.zero_le _) (Nat.zero_le _) ?_
            first
              | exact ⟨rfl, hRel0⟩
              | (exfalso; omega)
              | (exfalso; simp (disch := omega) only [Int32.lt_iff_toInt_lt, Int32.le_iff_toInt_le, ← Int32.toInt_inj, Int32.reduceToInt, nI_toInt] at c1RephasPerson c5RephasPerson c1JVisSet m2MDisIn; done)
              | (exfalso; simp (disch := omega) only [Int32.lt_iff_toInt_lt, Int32.le_iff_toInt_le, ← Int32.toInt_inj, Int32.reduceToInt, nI_toInt] at c1RephasPerson c5RephasPerson c1JVisSet m2MDisIn; omega)
          · refine jr_iload rfl rfl ?_
            refine jr_iload rfl rfl ?_
            refine jr_icmp_gt rfl (fun m5MDisIn => ?_) (fun m5MDisIn => ?_)
            · refine jr_ic rfl ?_
              refine jr_zret rfl rfl rfl (Nat.zero_le _) (Nat.zero_le _) ?_
              refine jr_zret rfl rfl rfl (Nat.zero_le _) (Nat.zero_le _) ?_
              refine jr_if_eq rfl (fun _ => ?_) (fun z => absurd (by decide) z)
              refine jr_ic rfl ?_
              refine jr_iret rfl rfl (Nat.zero_le _) (Nat.zero_le _) ?_
              first
                | exact ⟨rfl, hRel0⟩
                | (exfalso; omega)
                | (exfalso; simp (disch := omega) only [Int32.lt_iff_toInt_lt, Int32.le_iff_toInt_le, ← Int32.toInt_inj, Int32.reduceToInt, nI_toInt] at c1RephasPerson c5RephasPerson c1JVisSet m2MDisIn m5MDisIn; done)
                | (exfalso; simp (disch := omega) only [Int32.lt_iff_toInt_lt, Int32.le_iff_toInt_le, ← Int32.toInt_inj, Int32.reduceToInt, nI_toInt] at c1RephasPerson c5RephasPerson c1JVisSet m2MDisIn m5MDisIn; omega)
            · refine jr_ic rfl ?_
              refine jr_goto rfl ?_
              refine jr_zret rfl rfl rfl (Nat.zero_le _) (Nat.zero_le _) ?_
              refine jr_zret rfl rfl rfl (Nat.zero_le _) (Nat.zero_le _) ?_
              refine jr_if_eq rfl (fun z => absurd z (by decide)) (fun _ => ?_)
              refine jr_iload rfl rfl ?_
              refine jr_if_lt rfl (fun m5 => ?_) (fun m5 => ?_)
              · refine jr_ic rfl ?_
                refine jr_iret rfl rfl (Nat.zero_le _) (Nat.zero_le _) ?_
                first
                  | exact ⟨rfl, hRel0⟩
                  | (exfalso; omega)
                  | (exfalso; simp (disch := omega) only [Int32.lt_iff_toInt_lt, Int32.le_iff_toInt_le, ← Int32.toInt_inj, Int32.reduceToInt, nI_toInt] at c1RephasPerson c5RephasPerson c1JVisSet m2MDisIn m5MDisIn m5; done)
                  | (exfalso; simp (disch := omega) only [Int32.lt_iff_toInt_lt, Int32.le_iff_toInt_le, ← Int32.toInt_inj, Int32.reduceToInt, nI_toInt] at c1RephasPerson c5RephasPerson c1JVisSet m2MDisIn m5MDisIn m5; omega)
              · refine jr_iload rfl rfl ?_
                refine jr_ic rfl ?_
                refine jr_aload rfl rfl ?_
                refine jr_cv0 (mc' := 0) (ms' := 0) rfl jm_MD_dueMany_n jm_MD_dueMany_f rfl rfl rfl rfl rfl rfl rfl (Nat.zero_le _) (Nat.zero_le _) ?_
                show jx_W (jm_MD_dueMany, _, _, _, _, _, _) _ 0 0 0 [some _] [] _
                refine jr_aload rfl rfl ?_
                refine jr_getR rfl rfl rfl rfl (Or.inl rfl) ?_
                refine jr_aload rfl rfl ?_
                refine jr_getI rfl rfl ?_
                refine jr_iald (len := 2) rfl rfl hw.1 (by omega) ?_
                refine jr_iret rfl rfl (Nat.zero_le _) (Nat.zero_le _) ?_
                refine jr_ishl rfl ?_
                refine jr_icmp_lt rfl (fun m11 => ?_) (fun m11 => ?_)
                · refine jr_ic rfl ?_
                  refine jr_ist3 rfl rfl ?_
                  refine jr_ic rfl ?_
                  refine jr_ist4 rfl rfl ?_
                  first
                    | (exfalso; omega)
                    | (exfalso; simp (disch := omega) only [Int32.lt_iff_toInt_lt, Int32.le_iff_toInt_le, ← Int32.toInt_inj, Int32.reduceToInt, nI_toInt] at c1RephasPerson c5RephasPerson c1JVisSet m2MDisIn m5MDisIn m5 m11; done)
                    | (exfalso; simp (disch := omega) only [Int32.lt_iff_toInt_lt, Int32.le_iff_toInt_le, ← Int32.toInt_inj, Int32.reduceToInt, nI_toInt] at c1RephasPerson c5RephasPerson c1JVisSet m2MDisIn m5MDisIn m5 m11; omega)
                · refine jr_ic rfl ?_
                  refine jr_iret rfl rfl (Nat.zero_le _) (Nat.zero_le _) ?_
                  first
                    | exact ⟨rfl, hRel0⟩
                    | (exfalso; omega)
                    | (exfalso; simp (disch := omega) only [Int32.lt_iff_toInt_lt, Int32.le_iff_toInt_le, ← Int32.toInt_inj, Int32.reduceToInt, nI_toInt] at c1RephasPerson c5RephasPerson c1JVisSet m2MDisIn m5MDisIn m5 m11; done)
                    | (exfalso; simp (disch := omega) only [Int32.lt_iff_toInt_lt, Int32.le_iff_toInt_le, ← Int32.toInt_inj, Int32.reduceToInt, nI_toInt] at c1RephasPerson c5RephasPerson c1JVisSet m2MDisIn m5MDisIn m5 m11; omega)
        · refine jr_iload rfl rfl ?_
          refine jr_ic rfl ?_
          refine jr_iload rfl rfl ?_
          refine jr_ishl rfl ?_
          refine jr_icmp_ge rfl (fun c6JVisSet => ?_) (fun c6JVisSet => ?_)
          · refine jr_ic rfl ?_
            refine jr_zret rfl rfl rfl (Nat.zero_le _) (Nat.zero_le _) ?_
            refine jr_if_ne rfl (fun z => absurd (by decide) z) (fun _ => ?_)
            refine jr_ic rfl ?_
            refine jr_iret rfl rfl (Nat.zero_le _) (Nat.zero_le _) ?_
            show jx_W (jm_MD_net, d + 40, 0, 0, false, 1, _) _ 0 0 0 [some _, some _, some _, none, none, none] [] _
            refine jr_aload rfl rfl ?_
            refine jr_iload rfl rfl ?_
            refine jr_cv1 (mc' := 0) (ms' := 0) rfl jm_MD_isPerson_n jm_MD_isPerson_f rfl rfl rfl rfl rfl rfl rfl (Nat.zero_le _) (Nat.zero_le _) ?_
            show jx_W (jm_MD_isPerson, _, _, _, _, _, _) _ 0 0 0 [some _, some _] [] _
            refine jr_iload rfl rfl ?_
            refine jr_ic rfl ?_
            refine jr_aload rfl rfl ?_
            refine jr_cv0 (mc' := 0) (ms' := 0) rfl jm_MD_personMany_n jm_MD_personMany_f rfl rfl rfl rfl rfl rfl rfl (Nat.zero_le _) (Nat.zero_le _) ?_
            show jx_W (jm_MD_personMany, _, _, _, _, _, _) _ 0 0 0 [some _] [] _
            refine jr_aload rfl rfl ?_
            refine jr_getR rfl rfl rfl rfl (Or.inl rfl) ?_
            refine jr_aload rfl rfl ?_
            refine jr_getI rfl rfl ?_
            refine jr_iald (len := 2) rfl rfl hw.1 (by omega) ?_
            refine jr_iret rfl rfl (Nat.zero_le _) (Nat.zero_le _) ?_
            refine jr_ic rfl ?_
            refine jr_isub rfl ?_
            refine jr_cs3 (mc' := 0) (ms' := 0) rfl jm_MD_isIn_n jm_MD_isIn_f rfl rfl rfl rfl rfl (Nat.zero_le _) (Nat.zero_le _) ?_
            show jx_W (jm_MD_isIn, _, _, _, _, _, _) _ 0 0 0 [some _, some _, some _] [] _
            refine jr_iload rfl rfl ?_
            refine jr_iload rfl rfl ?_
            refine jr_icmp_lt rfl (fun m2MDisIn => ?_) (fun m2MDisIn => ?_)
            · refine jr_ic rfl ?_
              refine jr_zret rfl rfl rfl (Nat.zero_le _) (Nat.zero_le _) ?_
              refine jr_zret rfl rfl rfl (Nat.zero_le _) (Nat.zero_le _) ?_
              refine jr_if_eq rfl (fun _ => ?_) (fun z => absurd (by decide) z)
              refine jr_ic rfl ?_
              refine jr_iret rfl rfl (Nat.zero_le _) (Nat.zero_le _) ?_
              first
                | exact ⟨rfl, hRel0⟩
                | (exfalso; omega)
                | (exfalso; simp (disch := omega) only [Int32.lt_iff_toInt_lt, Int32.le_iff_toInt_le, ← Int32.toInt_inj, Int32.reduceToInt, nI_toInt] at c1RephasPerson c5RephasPerson c1JVisSet c6JVisSet m2MDisIn; done)
                | (exfalso; simp (disch := omega) only [Int32.lt_iff_toInt_lt, Int32.le_iff_toInt_le, ← Int32.toInt_inj, Int32.reduceToInt, nI_toInt] at c1RephasPerson c5RephasPerson c1JVisSet c6JVisSet m2MDisIn; omega)
            · refine jr_iload rfl rfl ?_
              refine jr_iload rfl rfl ?_
              refine jr_icmp_gt rfl (fun m5MDisIn => ?_) (fun m5MDisIn => ?_)
              · refine jr_ic rfl ?_
                refine jr_zret rfl rfl rfl (Nat.zero_le _) (Nat.zero_le _) ?_
                refine jr_zret rfl rfl rfl (Nat.zero_le _) (Nat.zero_le _) ?_
                refine jr_if_eq rfl (fun _ => ?_) (fun z => absurd (by decide) z)
                refine jr_ic rfl ?_
                refine jr_iret rfl rfl (Nat.zero_le _) (Nat.zero_le _) ?_
                first
                  | exact ⟨rfl, hRel0⟩
                  | (exfalso; omega)
                  | (exfalso; simp (disch := omega) only [Int32.lt_iff_toInt_lt, Int32.le_iff_toInt_le, ← Int32.toInt_inj, Int32.reduceToInt, nI_toInt] at c1RephasPerson c5RephasPerson c1JVisSet c6JVisSet m2MDisIn m5MDisIn; done)
                  | (exfalso; simp (disch := omega) only [Int32.lt_iff_toInt_lt, Int32.le_iff_toInt_le, ← Int32.toInt_inj, Int32.reduceToInt, nI_toInt] at c1RephasPerson c5RephasPerson c1JVisSet c6JVisSet m2MDisIn m5MDisIn; omega)
              · refine jr_ic rfl ?_
                refine jr_goto rfl ?_
                refine jr_zret rfl rfl rfl (Nat.zero_le _) (Nat.zero_le _) ?_
                refine jr_zret rfl rfl rfl (Nat.zero_le _) (Nat.zero_le _) ?_
                refine jr_if_eq rfl (fun z => absurd z (by decide)) (fun _ => ?_)
                refine jr_iload rfl rfl ?_
                refine jr_if_lt rfl (fun m5 => ?_) (fun m5 => ?_)
                · refine jr_ic rfl ?_
                  refine jr_iret rfl rfl (Nat.zero_le _) (Nat.zero_le _) ?_
                  first
                    | exact ⟨rfl, hRel0⟩
                    | (exfalso; omega)
                    | (exfalso; simp (disch := omega) only [Int32.lt_iff_toInt_lt, Int32.le_iff_toInt_le, ← Int32.toInt_inj, Int32.reduceToInt, nI_toInt] at c1RephasPerson c5RephasPerson c1JVisSet c6JVisSet m2MDisIn m5MDisIn m5; done)
                    | (exfalso; simp (disch := omega) only [Int32.lt_iff_toInt_lt, Int32.le_iff_toInt_le, ← Int32.toInt_inj, Int32.reduceToInt, nI_toInt] at c1RephasPerson c5RephasPerson c1JVisSet c6JVisSet m2MDisIn m5MDisIn m5; omega)
                · refine jr_iload rfl rfl ?_
                  refine jr_ic rfl ?_
                  refine jr_aload rfl rfl ?_
                  refine jr_cv0 (mc' := 0) (ms' := 0) rfl jm_MD_dueMany_n jm_MD_dueMany_f rfl rfl rfl rfl rfl rfl rfl (Nat.zero_le _) (Nat.zero_le _) ?_
                  show jx_W (jm_MD_dueMany, _, _, _, _, _, _) _ 0 0 0 [some _] [] _
                  refine jr_aload rfl rfl ?_
                  refine jr_getR rfl rfl rfl rfl (Or.inl rfl) ?_
                  refine jr_aload rfl rfl ?_
                  refine jr_getI rfl rfl ?_
                  refine jr_iald (len := 2) rfl rfl hw.1 (by omega) ?_
                  refine jr_iret rfl rfl (Nat.zero_le _) (Nat.zero_le _) ?_
                  refine jr_ishl rfl ?_
                  refine jr_icmp_lt rfl (fun m11 => ?_) (fun m11 => ?_)
                  · refine jr_ic rfl ?_
                    refine jr_ist3 rfl rfl ?_
                    refine jr_ic rfl ?_
                    refine jr_ist4 rfl rfl ?_
                    first
                      | (exfalso; omega)
                      | (exfalso; simp (disch := omega) only [Int32.lt_iff_toInt_lt, Int32.le_iff_toInt_le, ← Int32.toInt_inj, Int32.reduceToInt, nI_toInt] at c1RephasPerson c5RephasPerson c1JVisSet c6JVisSet m2MDisIn m5MDisIn m5 m11; done)
                      | (exfalso; simp (disch := omega) only [Int32.lt_iff_toInt_lt, Int32.le_iff_toInt_le, ← Int32.toInt_inj, Int32.reduceToInt, nI_toInt] at c1RephasPerson c5RephasPerson c1JVisSet c6JVisSet m2MDisIn m5MDisIn m5 m11; omega)
                  · refine jr_ic rfl ?_
                    refine jr_iret rfl rfl (Nat.zero_le _) (Nat.zero_le _) ?_
                    first
                      | exact ⟨rfl, hRel0⟩
                      | (exfalso; omega)
                      | (exfalso; simp (disch := omega) only [Int32.lt_iff_toInt_lt, Int32.le_iff_toInt_le, ← Int32.toInt_inj, Int32.reduceToInt, nI_toInt] at c1RephasPerson c5RephasPerson c1JVisSet c6JVisSet m2MDisIn m5MDisIn m5 m11; done)
                      | (exfalso; simp (disch := omega) only [Int32.lt_iff_toInt_lt, Int32.le_iff_toInt_le, ← Int32.toInt_inj, Int32.reduceToInt, nI_toInt] at c1RephasPerson c5RephasPerson c1JVisSet c6JVisSet m2MDisIn m5MDisIn m5 m11; omega)
          · refine jr_ic rfl ?_
            refine jr_goto rfl ?_
            refine jr_zret rfl rfl rfl (Nat.zero_le _) (Nat.zero_le _) ?_
            refine jr_if_ne rfl (fun _ => ?_) (fun z => absurd z (by decide))
            refine jr_aload rfl rfl ?_
            refine jr_getR rfl rfl rfl rfl (Or.inl rfl) ?_
            refine jr_iload rfl rfl ?_
            refine jr_iload rfl rfl ?_
            refine jr_cv2 (mc' := 0) (ms' := 0) rfl jm_Cal_netOf_n jm_Cal_netOf_f rfl rfl rfl rfl rfl rfl rfl (Nat.zero_le _) (Nat.zero_le _) ?_
            first
              | (exfalso; omega)
              | (exfalso; simp (disch := omega) only [Int32.lt_iff_toInt_lt, Int32.le_iff_toInt_le, ← Int32.toInt_inj, Int32.reduceToInt, nI_toInt] at c1RephasPerson c5RephasPerson c1JVisSet c6JVisSet; done)
              | (exfalso; simp (disch := omega) only [Int32.lt_iff_toInt_lt, Int32.le_iff_toInt_le, ← Int32.toInt_inj, Int32.reduceToInt, nI_toInt] at c1RephasPerson c5RephasPerson c1JVisSet c6JVisSet; omega)

