theorem eB_open {d : Nat} {h hm : jx_H} {Q : Option jx_V → jx_H → Prop} {b c r : Nat} (hw : jz_W hm b) (hA : jy_A h c r (jA hm)) (hR : jy_R h r hm b) (hmo : ¬ jC hm b 0 0 = 0) (k : ∀ S' : Nat → Nat → Int32, jy_Pf S' (jh_I h 7 r 13) hm b → jy_Pm S' hm b → Q none (jP h S' (c + 1))) : jx_Ev jm_Poll_open (d + 4) 0 0 false 0 [jv_r 5 0, jv_r 1 c] h Q := by
  have := ev_Poll_open (d := d) (Q := Q) (kc := jh_M h 5 0 5) (S := fun a => jh_I h a 0) hw hA hR hmo k
  rw [jP_self] at this
  exact this
theorem eB_result {d : Nat} {h hm : jx_H} {Q : Option jx_V → jx_H → Prop} {b c r : Nat} (hw : jz_W hm b) (hA : jy_A h c r (jA hm)) (hR : jy_R h r hm b) (hmo : ¬ jC hm b 0 0 = 0) (k : ∀ S' : Nat → Nat → Int32, Q (some (jv_i (jw_counted hm b))) (jP h S' (c + 1))) : jx_Ev jm_Poll_resultFor (d + 5) 0 0 false 0 [jv_r 5 0, jv_r 1 c] h Q := by
  have := ev_Poll_resultFor (d := d) (Q := Q) (kc := jh_M h 5 0 5) (S := fun a => jh_I h a 0) hw hA hR hmo k
  rw [jP_self] at this
  exact this
theorem eB_layMay {d : Nat} {h : jx_H} {Q : Option jx_V → jx_H → Prop} {b : Nat} (hw : jz_W h b) (hmo : ¬ jC h b 0 0 = 0) (k : ∀ S' : Nat → Nat → Int32, jz_S h S' → (∀ j, j < 32 → S' 100 j = jw_mayb h b j) → Q none (jS h S')) : jx_Ev jm_MD_layMay (d + 4) 0 0 false 1 [jv_r 11 0] h Q := by
  have := eS_layMay (d := d) (Q := Q) (S := fun a => jh_I h a 0) hw (fun _ _ => rfl) hmo (fun S' h1 _ h2 => k S' h1 h2)
  rw [jS_self] at this
  exact this
theorem eB_worthOf {d : Nat} {h : jx_H} {Q : Option jx_V → jx_H → Prop} {b p : Nat} {l : Int32} (hw : jz_W h b) (hmo : ¬ jC h b 0 0 = 0) (hp : p < 5) (k : ∀ S' : Nat → Nat → Int32, jz_S h S' → Q (some (jv_i (jw_worth h b p l (jz_nd h b)))) (jS h S')) : jx_Ev jm_MD_worthOf (d + 4) 0 0 false 1 [jv_r 11 0, jv_i (nI p), jv_i l] h Q := by
  have := eS_worthOf (d := d) (Q := Q) (S := fun a => jh_I h a 0) hw (fun _ _ => rfl) hmo hp (fun S' h1 _ => k S' h1)
  rw [jS_self] at this
  exact this
theorem eB_counted {d : Nat} {h : jx_H} {Q : Option jx_V → jx_H → Prop} {b : Nat} (hw : jz_W h b) (hmo : ¬ jC h b 0 0 = 0) (k : ∀ S' : Nat → Nat → Int32, jz_S h S' → Q (some (jv_i (jw_counted h b))) (jS h S')) : jx_Ev jm_MD_countedNow (d + 7) 0 0 false 1 [jv_r 11 0] h Q := by
  have := eS_countedNow (d := d) (Q := Q) (S := fun a => jh_I h a 0) hw (fun _ _ => rfl) hmo (fun S' h1 _ => k S' h1)
  rw [jS_self] at this
  exact this
theorem jz_3 {A : Prop} (x : Int32) (a n : Nat) (hn : n < 2 ^ 31) : A ∨ (¬ A ∧ ∃ p : Nat, x = nI p ∧ a ≤ p ∧ p ≤ n ∧ (nI p).toInt = p) ∨ (¬ A ∧ ¬ (a ≤ x.toInt ∧ x.toInt ≤ n)) := by
  by_cases h : A
  · exact Or.inl h
  · rcases nI_dec' x a n hn with h1 | h1
    · exact Or.inr (Or.inl ⟨h, h1⟩)
    · exact Or.inr (Or.inr ⟨h, h1⟩)
theorem jz_W1 {hm : jx_H} {b : Nat} {l : Nat} : (jw_mayb hm b l).toInt = 0 ∨ (jw_mayb hm b l).toInt = 1 := by
  rcases jw_mayb_01 (h := hm) (b := b) (l := l) with e | e <;> rw [e]
  · exact Or.inl rfl
  · exact Or.inr rfl
set_option maxHeartbeats 800000 in
set_option maxRecDepth 100000 in
theorem pd_may {d : Nat} {hc hm : jx_H} {x : Int32} (hRel : jz_Rel hc hm) : jx_Ev jm_JV_may (d + 40) 0 0 false 0 [jv_r 10 0, jv_i x] hc (fun r hc' => jx_Ev jm_MD_may (d + 40) 0 0 false 1 [jv_r 11 0, jv_i x] hm (fun r' hm' => r = r' ∧ jz_Rel hc' hm')) := by
  have hRel0 := hRel
  obtain ⟨b, r, ⟨hw, hG, hr2, hto, hsp, hR, hA, hL⟩, hTa, hFa, hLy, hTi, hLe, hBo, hAc, hWo⟩ := hRel
  have hb2 := hw.2.1
  have hnm := hw.2.2.1.1
  have hnm5 := hnm.2
  have km1 : (jh_I hc 7 r 0).toInt = (jz_nm hm b : Int) := by rw [hR.1]; exact (congrArg Int32.toInt hnm.1).trans (nI_toInt (by omega))
  have km2 : (jh_I hm 66 0 b).toInt = (jz_nm hm b : Int) := (congrArg Int32.toInt hnm.1).trans (nI_toInt (by omega))
  have km3 : (jh_I hm 66 0 b - 1).toInt = (jz_nm hm b : Int) - 1 := by rw [Int32.toInt_sub, km2, show (1 : Int32).toInt = 1 from rfl]; exact jn_sm (by omega) (by omega)
  rcases jz_3 (A := jC hm b 0 0 = 0) x 0 31 (by decide) with hmo | ⟨hmo, i, rfl, -, hi, hi2⟩ | ⟨hmo, hi⟩
  · have hn0 : (jz_nm hm b : Int) = 0 := by rw [← km2]; exact congrArg Int32.toInt hmo
    show jx_W (jm_JV_may, d + 40, 0, 0, false, 0, _) _ 0 0 0 [some (jv_r 10 0), some (jv_i x)] [] _
    refine jr_aload rfl rfl ?_
    refine jr_getM rfl rfl rfl rfl hto ?_
    refine jr_getI rfl rfl ?_
    refine jr_if_ne rfl (fun c3 => ?_) (fun c3 => ?_)
    · refine jr_aload rfl rfl ?_
      refine jr_getR rfl rfl rfl rfl (Or.inl rfl) ?_
      refine jr_aload rfl rfl ?_
      refine jr_getR rfl rfl rfl rfl (Or.inl rfl) ?_
      refine jr_cv1 (mc' := 0) (ms' := 0) rfl jm_Poll_open_n jm_Poll_open_f rfl rfl rfl rfl rfl rfl rfl (Nat.zero_le _) (Nat.zero_le _) ?_
      first
        | (exfalso; omega)
        | (exfalso; simp (disch := omega) only [Int32.lt_iff_toInt_lt, Int32.le_iff_toInt_le, ← Int32.toInt_inj, Int32.reduceToInt, nI_toInt] at c3; done)
        | (exfalso; simp (disch := omega) only [Int32.lt_iff_toInt_lt, Int32.le_iff_toInt_le, ← Int32.toInt_inj, Int32.reduceToInt, nI_toInt] at c3; omega)
    · refine jr_ic rfl ?_
      refine jr_iret rfl rfl (Nat.zero_le _) (Nat.zero_le _) ?_
      show jx_W (jm_MD_may, d + 40, 0, 0, false, 1, _) _ 0 0 0 [some _, some _] [] _
      refine jr_aload rfl rfl ?_
      refine jr_cv0 (mc' := 0) (ms' := 0) rfl jm_MD_hasMonths_n jm_MD_hasMonths_f rfl rfl rfl rfl rfl rfl rfl (Nat.zero_le _) (Nat.zero_le _) ?_
      show jx_W (jm_MD_hasMonths, _, _, _, _, _, _) _ 0 0 0 [some _] [] _
      refine jr_aload rfl rfl ?_
      refine jr_getR rfl rfl rfl rfl (Or.inl rfl) ?_
      refine jr_aload rfl rfl ?_
      refine jr_getI rfl rfl ?_
      refine jr_iald (len := 2) rfl rfl hw.1 (by omega) ?_
      refine jr_if_le rfl (fun m5MDhasMonths => ?_) (fun m5MDhasMonths => ?_)
      · refine jr_ic rfl ?_
        refine jr_zret rfl rfl rfl (Nat.zero_le _) (Nat.zero_le _) ?_
        refine jr_if_ne rfl (fun z => absurd (by decide) z) (fun _ => ?_)
        refine jr_ic rfl ?_
        refine jr_iret rfl rfl (Nat.zero_le _) (Nat.zero_le _) ?_
        first
          | exact ⟨rfl, hRel0⟩
          | (exfalso; omega)
          | (exfalso; simp (disch := omega) only [Int32.lt_iff_toInt_lt, Int32.le_iff_toInt_le, ← Int32.toInt_inj, Int32.reduceToInt, nI_toInt] at c3 m5MDhasMonths; done)
          | (exfalso; simp (disch := omega) only [Int32.lt_iff_toInt_lt, Int32.le_iff_toInt_le, ← Int32.toInt_inj, Int32.reduceToInt, nI_toInt] at c3 m5MDhasMonths; omega)
      · refine jr_ic rfl ?_
        refine jr_goto rfl ?_
        refine jr_zret rfl rfl rfl (Nat.zero_le _) (Nat.zero_le _) ?_
        refine jr_if_ne rfl (fun _ => ?_) (fun z => absurd z (by decide))
        refine jr_aload rfl rfl ?_
        refine jr_cv0 (mc' := 0) (ms' := 0) rfl jm_MD_layMay_n jm_MD_layMay_f rfl rfl rfl rfl rfl rfl rfl (Nat.zero_le _) (Nat.zero_le _) ?_
        first
          | (exfalso; omega)
          | (exfalso; simp (disch := omega) only [Int32.lt_iff_toInt_lt, Int32.le_iff_toInt_le, ← Int32.toInt_inj, Int32.reduceToInt, nI_toInt] at c3 m5MDhasMonths; done)
          | (exfalso; simp (disch := omega) only [Int32.lt_iff_toInt_lt, Int32.le_iff_toInt_le, ← Int32.toInt_inj, Int32.reduceToInt, nI_toInt] at c3 m5MDhasMonths; omega)
  · have hn1 : 0 < jz_nm hm b := by
      rcases Nat.eq_zero_or_pos (jz_nm hm b) with e | e
      · rw [e] at hnm; exact absurd hnm.1 hmo
      · exact e
    have hy := jz_W1 (hm := hm) (b := b) (l := i)
    show jx_W (jm_JV_may, d + 40, 0, 0, false, 0, _) _ 0 0 0 [some (jv_r 10 0), some (jv_i (nI i))] [] _
    refine jr_aload rfl rfl ?_
    refine jr_getM rfl rfl rfl rfl hto ?_
    refine jr_getI rfl rfl ?_
    refine jr_if_ne rfl (fun c3 => ?_) (fun c3 => ?_)
    · refine jr_aload rfl rfl ?_
      refine jr_getR rfl rfl rfl rfl (Or.inl rfl) ?_
      refine jr_aload rfl rfl ?_
      refine jr_getR rfl rfl rfl rfl (Or.inl rfl) ?_
      refine jr_cv1 (mc' := 0) (ms' := 0) rfl jm_Poll_open_n jm_Poll_open_f rfl rfl rfl rfl rfl rfl rfl (Nat.zero_le _) (Nat.zero_le _) ?_
      refine eB_open hw hA hR hmo (fun S1 hP1 hM1 => ?_)
      refine jr_aload rfl rfl ?_
      refine jr_getR rfl rfl rfl rfl (Or.inl rfl) ?_
      refine jr_iload rfl rfl ?_
      refine jr_cv1 (mc' := 0) (ms' := 0) rfl jm_Poll_mayBe_n jm_Poll_mayBe_f rfl rfl rfl rfl rfl rfl rfl (Nat.zero_le _) (Nat.zero_le _) ?_
      refine ev_Poll_mayBe (l := i) (by omega) ?_
      rw [hM1 i (by omega), jw_mayb_if]
      refine jr_if_eq rfl (fun c15 => ?_) (fun c15 => ?_)
      · refine jr_ic rfl ?_
        refine jr_iret rfl rfl (Nat.zero_le _) (Nat.zero_le _) ?_
        show jx_W (jm_MD_may, d + 40, 0, 0, false, 1, _) _ 0 0 0 [some _, some _] [] _
        refine jr_aload rfl rfl ?_
        refine jr_cv0 (mc' := 0) (ms' := 0) rfl jm_MD_hasMonths_n jm_MD_hasMonths_f rfl rfl rfl rfl rfl rfl rfl (Nat.zero_le _) (Nat.zero_le _) ?_
        show jx_W (jm_MD_hasMonths, _, _, _, _, _, _) _ 0 0 0 [some _] [] _
        refine jr_aload rfl rfl ?_
        refine jr_getR rfl rfl rfl rfl (Or.inl rfl) ?_
        refine jr_aload rfl rfl ?_
        refine jr_getI rfl rfl ?_
        refine jr_iald (len := 2) rfl rfl hw.1 (by omega) ?_
        refine jr_if_le rfl (fun m5MDhasMonths => ?_) (fun m5MDhasMonths => ?_)
        · refine jr_ic rfl ?_
          refine jr_zret rfl rfl rfl (Nat.zero_le _) (Nat.zero_le _) ?_
          refine jr_if_ne rfl (fun z => absurd (by decide) z) (fun _ => ?_)
          refine jr_ic rfl ?_
          refine jr_iret rfl rfl (Nat.zero_le _) (Nat.zero_le _) ?_
          first
            | exact ⟨rfl, (jz_Rel_p hRel0 hS2)⟩
            | exact ⟨rfl, hRel0⟩
            | (exfalso; omega)
            | (exfalso; simp (disch := omega) only [Int32.lt_iff_toInt_lt, Int32.le_iff_toInt_le, ← Int32.toInt_inj, Int32.reduceToInt, nI_toInt] at c3 c15 m5MDhasMonths; done)
            | (exfalso; simp (disch := omega) only [Int32.lt_iff_toInt_lt, Int32.le_iff_toInt_le, ← Int32.toInt_inj, Int32.reduceToInt, nI_toInt] at c3 c15 m5MDhasMonths; omega)
        · refine jr_ic rfl ?_
          refine jr_goto rfl ?_
          refine jr_zret rfl rfl rfl (Nat.zero_le _) (Nat.zero_le _) ?_
          refine jr_if_ne rfl (fun _ => ?_) (fun z => absurd z (by decide))
          refine jr_aload rfl rfl ?_
          refine jr_cv0 (mc' := 0) (ms' := 0) rfl jm_MD_layMay_n jm_MD_layMay_f rfl rfl rfl rfl rfl rfl rfl (Nat.zero_le _) (Nat.zero_le _) ?_
          refine eB_layMay hw hmo (fun S2 hS2 hM2 => ?_)
          refine jr_iload rfl rfl ?_
          refine jr_ic rfl ?_
          refine jr_ic rfl ?_
          refine jr_cs3 (mc' := 0) (ms' := 0) rfl jm_MD_isIn_n jm_MD_isIn_f rfl rfl rfl rfl rfl (Nat.zero_le _) (Nat.zero_le _) ?_
          show jx_W (jm_MD_isIn, _, _, _, _, _, _) _ 0 0 0 [some _, some _, some _] [] _
          refine jr_iload rfl rfl ?_
          refine jr_iload rfl rfl ?_
          refine jr_icmp_lt rfl (fun m2MDisIn => ?_) (fun m2MDisIn => ?_)
          · refine jr_ic rfl ?_
            refine jr_zret rfl rfl rfl (Nat.zero_le _) (Nat.zero_le _) ?_
            refine jr_if_eq rfl (fun _ => ?_) (fun z => absurd (by decide) z)
            refine jr_ic rfl ?_
            refine jr_iret rfl rfl (Nat.zero_le _) (Nat.zero_le _) ?_
            first
              | exact ⟨rfl, (jz_Rel_p hRel0 hS2)⟩
              | exact ⟨rfl, hRel0⟩
              | (exfalso; omega)
              | (exfalso; simp (disch := omega) only [Int32.lt_iff_toInt_lt, Int32.le_iff_toInt_le, ← Int32.toInt_inj, Int32.reduceToInt, nI_toInt] at c3 c15 m5MDhasMonths m2MDisIn; done)
              | (exfalso; simp (disch := omega) only [Int32.lt_iff_toInt_lt, Int32.le_iff_toInt_le, ← Int32.toInt_inj, Int32.reduceToInt, nI_toInt] at c3 c15 m5MDhasMonths m2MDisIn; omega)
          · refine jr_iload rfl rfl ?_
            refine jr_iload rfl rfl ?_
            refine jr_icmp_gt rfl (fun m5MDisIn => ?_) (fun m5MDisIn => ?_)
            · refine jr_ic rfl ?_
              refine jr_zret rfl rfl rfl (Nat.zero_le _) (Nat.zero_le _) ?_
              refine jr_if_eq rfl (fun _ => ?_) (fun z => absurd (by decide) z)
              refine jr_ic rfl ?_
              refine jr_iret rfl rfl (Nat.zero_le _) (Nat.zero_le _) ?_
              first
                | exact ⟨rfl, (jz_Rel_p hRel0 hS2)⟩
                | exact ⟨rfl, hRel0⟩
                | (exfalso; omega)
                | (exfalso; simp (disch := omega) only [Int32.lt_iff_toInt_lt, Int32.le_iff_toInt_le, ← Int32.toInt_inj, Int32.reduceToInt, nI_toInt] at c3 c15 m5MDhasMonths m2MDisIn m5MDisIn; done)
                | (exfalso; simp (disch := omega) only [Int32.lt_iff_toInt_lt, Int32.le_iff_toInt_le, ← Int32.toInt_inj, Int32.reduceToInt, nI_toInt] at c3 c15 m5MDhasMonths m2MDisIn m5MDisIn; omega)
            · refine jr_ic rfl ?_
              refine jr_goto rfl ?_
              refine jr_zret rfl rfl rfl (Nat.zero_le _) (Nat.zero_le _) ?_
              refine jr_if_eq rfl (fun z => absurd z (by decide)) (fun _ => ?_)
              refine jr_aload rfl rfl ?_
              refine jr_getR rfl rfl rfl rfl (Or.inl rfl) ?_
              refine jr_iload rfl rfl ?_
              refine jr_zald (len := 32) rfl rfl rfl (by omega) ?_
              rw [show jh_I (jS hm S2) 100 0 i = jw_mayb hm b i from hM2 i (by omega)]
              refine jr_if_eq rfl (fun m16 => ?_) (fun m16 => ?_)
              · refine jr_ic rfl ?_
                refine jr_iret rfl rfl (Nat.zero_le _) (Nat.zero_le _) ?_
                first
                  | exact ⟨rfl, (jz_Rel_p hRel0 hS2)⟩
                  | exact ⟨rfl, hRel0⟩
                  | (exfalso; omega)
                  | (exfalso; simp (disch := omega) only [Int32.lt_iff_toInt_lt, Int32.le_iff_toInt_le, ← Int32.toInt_inj, Int32.reduceToInt, nI_toInt] at c3 c15 m5MDhasMonths m2MDisIn m5MDisIn m16; done)
                  | (exfalso; simp (disch := omega) only [Int32.lt_iff_toInt_lt, Int32.le_iff_toInt_le, ← Int32.toInt_inj, Int32.reduceToInt, nI_toInt] at c3 c15 m5MDhasMonths m2MDisIn m5MDisIn m16; omega)
              · refine jr_ic rfl ?_
                refine jr_goto rfl ?_
                refine jr_iret rfl rfl (Nat.zero_le _) (Nat.zero_le _) ?_
                first
                  | exact ⟨rfl, (jz_Rel_p hRel0 hS2)⟩
                  | exact ⟨rfl, hRel0⟩
                  | (exfalso; omega)
                  | (exfalso; simp (disch := omega) only [Int32.lt_iff_toInt_lt, Int32.le_iff_toInt_le, ← Int32.toInt_inj, Int32.reduceToInt, nI_toInt] at c3 c15 m5MDhasMonths m2MDisIn m5MDisIn m16; done)
                  | (exfalso; simp (disch := omega) only [Int32.lt_iff_toInt_lt, Int32.le_iff_toInt_le, ← Int32.toInt_inj, Int32.reduceToInt, nI_toInt] at c3 c15 m5MDhasMonths m2MDisIn m5MDisIn m16; omega)
      · refine jr_ic rfl ?_
        refine jr_goto rfl ?_
        refine jr_iret rfl rfl (Nat.zero_le _) (Nat.zero_le _) ?_
        show jx_W (jm_MD_may, d + 40, 0, 0, false, 1, _) _ 0 0 0 [some _, some _] [] _
        refine jr_aload rfl rfl ?_
        refine jr_cv0 (mc' := 0) (ms' := 0) rfl jm_MD_hasMonths_n jm_MD_hasMonths_f rfl rfl rfl rfl rfl rfl rfl (Nat.zero_le _) (Nat.zero_le _) ?_
        show jx_W (jm_MD_hasMonths, _, _, _, _, _, _) _ 0 0 0 [some _] [] _
        refine jr_aload rfl rfl ?_
        refine jr_getR rfl rfl rfl rfl (Or.inl rfl) ?_
        refine jr_aload rfl rfl ?_
        refine jr_getI rfl rfl ?_
        refine jr_iald (len := 2) rfl rfl hw.1 (by omega) ?_
        refine jr_if_le rfl (fun m5MDhasMonths => ?_) (fun m5MDhasMonths => ?_)
        · refine jr_ic rfl ?_
          refine jr_zret rfl rfl rfl (Nat.zero_le _) (Nat.zero_le _) ?_
          refine jr_if_ne rfl (fun z => absurd (by decide) z) (fun _ => ?_)
          refine jr_ic rfl ?_
          refine jr_iret rfl rfl (Nat.zero_le _) (Nat.zero_le _) ?_
          first
            | exact ⟨rfl, (jz_Rel_p hRel0 hS2)⟩
            | exact ⟨rfl, hRel0⟩
            | (exfalso; omega)
            | (exfalso; simp (disch := omega) only [Int32.lt_iff_toInt_lt, Int32.le_iff_toInt_le, ← Int32.toInt_inj, Int32.reduceToInt, nI_toInt] at c3 c15 m5MDhasMonths; done)
            | (exfalso; simp (disch := omega) only [Int32.lt_iff_toInt_lt, Int32.le_iff_toInt_le, ← Int32.toInt_inj, Int32.reduceToInt, nI_toInt] at c3 c15 m5MDhasMonths; omega)
        · refine jr_ic rfl ?_
          refine jr_goto rfl ?_
          refine jr_zret rfl rfl rfl (Nat.zero_le _) (Nat.zero_le _) ?_
          refine jr_if_ne rfl (fun _ => ?_) (fun z => absurd z (by decide))
          refine jr_aload rfl rfl ?_
          refine jr_cv0 (mc' := 0) (ms' := 0) rfl jm_MD_layMay_n jm_MD_layMay_f rfl rfl rfl rfl rfl rfl rfl (Nat.zero_le _) (Nat.zero_le _) ?_
          refine eB_layMay hw hmo (fun S2 hS2 hM2 => ?_)
          refine jr_iload rfl rfl ?_
          refine jr_ic rfl ?_
          refine jr_ic rfl ?_
          refine jr_cs3 (mc' := 0) (ms' := 0) rfl jm_MD_isIn_n jm_MD_isIn_f rfl rfl rfl rfl rfl (Nat.zero_le _) (Nat.zero_le _) ?_
          show jx_W (jm_MD_isIn, _, _, _, _, _, _) _ 0 0 0 [some _, some _, some _] [] _
          refine jr_iload rfl rfl ?_
          refine jr_iload rfl rfl ?_
          refine jr_icmp_lt rfl (fun m2MDisIn => ?_) (fun m2MDisIn => ?_)
          · refine jr_ic rfl ?_
            refine jr_zret rfl rfl rfl (Nat.zero_le _) (Nat.zero_le _) ?_
            refine jr_if_eq rfl (fun _ => ?_) (fun z => absurd (by decide) z)
            refine jr_ic rfl ?_
            refine jr_iret rfl rfl (Nat.zero_le _) (Nat.zero_le _) ?_
            first
              | exact ⟨rfl, (jz_Rel_p hRel0 hS2)⟩
              | exact ⟨rfl, hRel0⟩
              | (exfalso; omega)
              | (exfalso; simp (disch := omega) only [Int32.lt_iff_toInt_lt, Int32.le_iff_toInt_le, ← Int32.toInt_inj, Int32.reduceToInt, nI_toInt] at c3 c15 m5MDhasMonths m2MDisIn; done)
              | (exfalso; simp (disch := omega) only [Int32.lt_iff_toInt_lt, Int32.le_iff_toInt_le, ← Int32.toInt_inj, Int32.reduceToInt, nI_toInt] at c3 c15 m5MDhasMonths m2MDisIn; omega)
          · refine jr_iload rfl rfl ?_
            refine jr_iload rfl rfl ?_
            refine jr_icmp_gt rfl (fun m5MDisIn => ?_) (fun m5MDisIn => ?_)
            · refine jr_ic rfl ?_
              refine jr_zret rfl rfl rfl (Nat.zero_le _) (Nat.zero_le _) ?_
              refine jr_if_eq rfl (fun _ => ?_) (fun z => absurd (by decide) z)
              refine jr_ic rfl ?_
              refine jr_iret rfl rfl (Nat.zero_le _) (Nat.zero_le _) ?_
              first
                | exact ⟨rfl, (jz_Rel_p hRel0 hS2)⟩
                | exact ⟨rfl, hRel0⟩
                | (exfalso; omega)
                | (exfalso; simp (disch := omega) only [Int32.lt_iff_toInt_lt, Int32.le_iff_toInt_le, ← Int32.toInt_inj, Int32.reduceToInt, nI_toInt] at c3 c15 m5MDhasMonths m2MDisIn m5MDisIn; done)
                | (exfalso; simp (disch := omega) only [Int32.lt_iff_toInt_lt, Int32.le_iff_toInt_le, ← Int32.toInt_inj, Int32.reduceToInt, nI_toInt] at c3 c15 m5MDhasMonths m2MDisIn m5MDisIn; omega)
            · refine jr_ic rfl ?_
              refine jr_goto rfl ?_
              refine jr_zret rfl rfl rfl (Nat.zero_le _) (Nat.zero_le _) ?_
              refine jr_if_eq rfl (fun z => absurd z (by decide)) (fun _ => ?_)
              refine jr_aload rfl rfl ?_
              refine jr_getR rfl rfl rfl rfl (Or.inl rfl) ?_
              refine jr_iload rfl rfl ?_
              refine jr_zald (len := 32) rfl rfl rfl (by omega) ?_
              rw [show jh_I (jS hm S2) 100 0 i = jw_mayb hm b i from hM2 i (by omega)]
              refine jr_if_eq rfl (fun m16 => ?_) (fun m16 => ?_)
              · refine jr_ic rfl ?_
                refine jr_iret rfl rfl (Nat.zero_le _) (Nat.zero_le _) ?_
                first
                  | exact ⟨rfl, (jz_Rel_p hRel0 hS2)⟩
                  | exact ⟨rfl, hRel0⟩
                  | (exfalso; omega)
                  | (exfalso; simp (disch := omega) only [Int32.lt_iff_toInt_lt, Int32.le_iff_toInt_le, ← Int32.toInt_inj, Int32.reduceToInt, nI_toInt] at c3 c15 m5MDhasMonths m2MDisIn m5MDisIn m16; done)
                  | (exfalso; simp (disch := omega) only [Int32.lt_iff_toInt_lt, Int32.le_iff_toInt_le, ← Int32.toInt_inj, Int32.reduceToInt, nI_toInt] at c3 c15 m5MDhasMonths m2MDisIn m5MDisIn m16; omega)
              · refine jr_ic rfl ?_
                refine jr_goto rfl ?_
                refine jr_iret rfl rfl (Nat.zero_le _) (Nat.zero_le _) ?_
                first
                  | exact ⟨rfl, (jz_Rel_p hRel0 hS2)⟩
                  | exact ⟨rfl, hRel0⟩
                  | (exfalso; omega)
                  | (exfalso; simp (disch := omega) only [Int32.lt_iff_toInt_lt, Int32.le_iff_toInt_le, ← Int32.toInt_inj, Int32.reduceToInt, nI_toInt] at c3 c15 m5MDhasMonths m2MDisIn m5MDisIn m16; done)
                  | (exfalso; simp (disch := omega) only [Int32.lt_iff_toInt_lt, Int32.le_iff_toInt_le, ← Int32.toInt_inj, Int32.reduceToInt, nI_toInt] at c3 c15 m5MDhasMonths m2MDisIn m5MDisIn m16; omega)
    · refine jr_ic rfl ?_
      refine jr_iret rfl rfl (Nat.zero_le _) (Nat.zero_le _) ?_
      show jx_W (jm_MD_may, d + 40, 0, 0, false, 1, _) _ 0 0 0 [some _, some _] [] _
      refine jr_aload rfl rfl ?_
      refine jr_cv0 (mc' := 0) (ms' := 0) rfl jm_MD_hasMonths_n jm_MD_hasMonths_f rfl rfl rfl rfl rfl rfl rfl (Nat.zero_le _) (Nat.zero_le _) ?_
      show jx_W (jm_MD_hasMonths, _, _, _, _, _, _) _ 0 0 0 [some _] [] _
      refine jr_aload rfl rfl ?_
      refine jr_getR rfl rfl rfl rfl (Or.inl rfl) ?_
      refine jr_aload rfl rfl ?_
      refine jr_getI rfl rfl ?_
      refine jr_iald (len := 2) rfl rfl hw.1 (by omega) ?_
      refine jr_if_le rfl (fun m5MDhasMonths => ?_) (fun m5MDhasMonths => ?_)
      · refine jr_ic rfl ?_
        refine jr_zret rfl rfl rfl (Nat.zero_le _) (Nat.zero_le _) ?_
        refine jr_if_ne rfl (fun z => absurd (by decide) z) (fun _ => ?_)
        refine jr_ic rfl ?_
        refine jr_iret rfl rfl (Nat.zero_le _) (Nat.zero_le _) ?_
        first
          | exact ⟨rfl, (jz_Rel_p hRel0 hS2)⟩
          | exact ⟨rfl, hRel0⟩
          | (exfalso; omega)
          | (exfalso; simp (disch := omega) only [Int32.lt_iff_toInt_lt, Int32.le_iff_toInt_le, ← Int32.toInt_inj, Int32.reduceToInt, nI_toInt] at c3 m5MDhasMonths; done)
          | (exfalso; simp (disch := omega) only [Int32.lt_iff_toInt_lt, Int32.le_iff_toInt_le, ← Int32.toInt_inj, Int32.reduceToInt, nI_toInt] at c3 m5MDhasMonths; omega)
      · refine jr_ic rfl ?_
        refine jr_goto rfl ?_
        refine jr_zret rfl rfl rfl (Nat.zero_le _) (Nat.zero_le _) ?_
        refine jr_if_ne rfl (fun _ => ?_) (fun z => absurd z (by decide))
        refine jr_aload rfl rfl ?_
        refine jr_cv0 (mc' := 0) (ms' := 0) rfl jm_MD_layMay_n jm_MD_layMay_f rfl rfl rfl rfl rfl rfl rfl (Nat.zero_le _) (Nat.zero_le _) ?_
        refine eB_layMay hw hmo (fun S2 hS2 hM2 => ?_)
        refine jr_iload rfl rfl ?_
        refine jr_ic rfl ?_
        refine jr_ic rfl ?_
        refine jr_cs3 (mc' := 0) (ms' := 0) rfl jm_MD_isIn_n jm_MD_isIn_f rfl rfl rfl rfl rfl (Nat.zero_le _) (Nat.zero_le _) ?_
        show jx_W (jm_MD_isIn, _, _, _, _, _, _) _ 0 0 0 [some _, some _, some _] [] _
        refine jr_iload rfl rfl ?_
        refine jr_iload rfl rfl ?_
        refine jr_icmp_lt rfl (fun m2MDisIn => ?_) (fun m2MDisIn => ?_)
        · refine jr_ic rfl ?_
          refine jr_zret rfl rfl rfl (Nat.zero_le _) (Nat.zero_le _) ?_
          refine jr_if_eq rfl (fun _ => ?_) (fun z => absurd (by decide) z)
          refine jr_ic rfl ?_
          refine jr_iret rfl rfl (Nat.zero_le _) (Nat.zero_le _) ?_
          first
            | exact ⟨rfl, (jz_Rel_p hRel0 hS2)⟩
            | exact ⟨rfl, hRel0⟩
            | (exfalso; omega)
            | (exfalso; simp (disch := omega) only [Int32.lt_iff_toInt_lt, Int32.le_iff_toInt_le, ← Int32.toInt_inj, Int32.reduceToInt, nI_toInt] at c3 m5MDhasMonths m2MDisIn; done)
            | (exfalso; simp (disch := omega) only [Int32.lt_iff_toInt_lt, Int32.le_iff_toInt_le, ← Int32.toInt_inj, Int32.reduceToInt, nI_toInt] at c3 m5MDhasMonths m2MDisIn; omega)
        · refine jr_iload rfl rfl ?_
          refine jr_iload rfl rfl ?_
          refine jr_icmp_gt rfl (fun m5MDisIn => ?_) (fun m5MDisIn => ?_)
          · refine jr_ic rfl ?_
            refine jr_zret rfl rfl rfl (Nat.zero_le _) (Nat.zero_le _) ?_
            refine jr_if_eq rfl (fun _ => ?_) (fun z => absurd (by decide) z)
            refine jr_ic rfl ?_
            refine jr_iret rfl rfl (Nat.zero_le _) (Nat.zero_le _) ?_
            first
              | exact ⟨rfl, (jz_Rel_p hRel0 hS2)⟩
              | exact ⟨rfl, hRel0⟩
              | (exfalso; omega)
              | (exfalso; simp (disch := omega) only [Int32.lt_iff_toInt_lt, Int32.le_iff_toInt_le, ← Int32.toInt_inj, Int32.reduceToInt, nI_toInt] at c3 m5MDhasMonths m2MDisIn m5MDisIn; done)
              | (exfalso; simp (disch := omega) only [Int32.lt_iff_toInt_lt, Int32.le_iff_toInt_le, ← Int32.toInt_inj, Int32.reduceToInt, nI_toInt] at c3 m5MDhasMonths m2MDisIn m5MDisIn; omega)
          · refine jr_ic rfl ?_
            refine jr_goto rfl ?_
            refine jr_zret rfl rfl rfl (Nat.zero_le _) (Nat.zero_le _) ?_
            refine jr_if_eq rfl (fun z => absurd z (by decide)) (fun _ => ?_)
            refine jr_aload rfl rfl ?_
            refine jr_getR rfl rfl rfl rfl (Or.inl rfl) ?_
            refine jr_iload rfl rfl ?_
            refine jr_zald (len := 32) rfl rfl rfl (by omega) ?_
            rw [show jh_I (jS hm S2) 100 0 i = jw_mayb hm b i from hM2 i (by omega)]
            refine jr_if_eq rfl (fun m16 => ?_) (fun m16 => ?_)
            · refine jr_ic rfl ?_
              refine jr_iret rfl rfl (Nat.zero_le _) (Nat.zero_le _) ?_
              first
                | exact ⟨rfl, (jz_Rel_p hRel0 hS2)⟩
                | exact ⟨rfl, hRel0⟩
                | (exfalso; omega)
                | (exfalso; simp (disch := omega) only [Int32.lt_iff_toInt_lt, Int32.le_iff_toInt_le, ← Int32.toInt_inj, Int32.reduceToInt, nI_toInt] at c3 m5MDhasMonths m2MDisIn m5MDisIn m16; done)
                | (exfalso; simp (disch := omega) only [Int32.lt_iff_toInt_lt, Int32.le_iff_toInt_le, ← Int32.toInt_inj, Int32.reduceToInt, nI_toInt] at c3 m5MDhasMonths m2MDisIn m5MDisIn m16; omega)
            · refine jr_ic rfl ?_
              refine jr_goto rfl ?_
              refine jr_iret rfl rfl (Nat.zero_le _) (Nat.zero_le _) ?_
              first
                | exact ⟨rfl, (jz_Rel_p hRel0 hS2)⟩
                | exact ⟨rfl, hRel0⟩
                | (exfalso; omega)
                | (exfalso; simp (disch := omega) only [Int32.lt_iff_toInt_lt, Int32.le_iff_toInt_le, ← Int32.toInt_inj, Int32.reduceToInt, nI_toInt] at c3 m5MDhasMonths m2MDisIn m5MDisIn m16; done)
                | (exfalso; simp (disch := omega) only [Int32.lt_iff_toInt_lt, Int32.le_iff_toInt_le, ← Int32.toInt_inj, Int32.reduceToInt, nI_toInt] at c3 m5MDhasMonths m2MDisIn m5MDisIn m16; omega)
  · have hn1 : 0 < jz_nm hm b := by
      rcases Nat.eq_zero_or_pos (jz_nm hm b) with e | e
      · rw [e] at hnm; exact absurd hnm.1 hmo
      · exact e
    show jx_W (jm_JV_may, d + 40, 0, 0, false, 0, _) _ 0 0 0 [some (jv_r 10 0), some (jv_i x)] [] _
    refine jr_aload rfl rfl ?_
    refine jr_getM rfl rfl rfl rfl hto ?_
    refine jr_getI rfl rfl ?_
    refine jr_if_ne rfl (fun c3 => ?_) (fun c3 => ?_)
    · refine jr_aload rfl rfl ?_
      refine jr_getR rfl rfl rfl rfl (Or.inl rfl) ?_
      refine jr_aload rfl rfl ?_
      refine jr_getR rfl rfl rfl rfl (Or.inl rfl) ?_
      refine jr_cv1 (mc' := 0) (ms' := 0) rfl jm_Poll_open_n jm_Poll_open_f rfl rfl rfl rfl rfl rfl rfl (Nat.zero_le _) (Nat.zero_le _) ?_
      refine eB_open hw hA hR hmo (fun S1 hP1 hM1 => ?_)
      refine jr_aload rfl rfl ?_
      refine jr_getR rfl rfl rfl rfl (Or.inl rfl) ?_
      refine jr_iload rfl rfl ?_
      refine jr_cv1 (mc' := 0) (ms' := 0) rfl jm_Poll_mayBe_n jm_Poll_mayBe_f rfl rfl rfl rfl rfl rfl rfl (Nat.zero_le _) (Nat.zero_le _) ?_
      show jx_W (jm_Poll_mayBe, _, _, _, _, _, _) _ 0 0 0 [some _, some _] [] _
      refine jr_iload rfl rfl ?_
      refine jr_cn1 (mc' := 0) (ms' := 0) rfl jm_JV_isLength_n jm_JV_isLength_f rfl rfl (by first | exact Or.inl ⟨rfl, rfl⟩ | exact Or.inr ⟨rfl, rfl⟩) rfl rfl rfl rfl (Nat.zero_le _) (Nat.zero_le _) ?_
      show jx_W (jm_JV_isLength, _, _, _, _, _, _) _ 0 0 0 [some _] [] _
      refine jr_iload rfl rfl ?_
      refine jr_if_lt rfl (fun c1JVisLength => ?_) (fun c1JVisLength => ?_)
      · refine jr_ic rfl ?_
        refine jr_zret rfl rfl rfl (Nat.zero_le _) (Nat.zero_le _) ?_
        refine jr_if_eq rfl (fun _ => ?_) (fun z => absurd (by decide) z)
        refine jr_ic rfl ?_
        refine jr_zret rfl rfl rfl (Nat.zero_le _) (Nat.zero_le _) ?_
        refine jr_if_eq rfl (fun _ => ?_) (fun z => absurd (by decide) z)
        refine jr_ic rfl ?_
        refine jr_iret rfl rfl (Nat.zero_le _) (Nat.zero_le _) ?_
        show jx_W (jm_MD_may, d + 40, 0, 0, false, 1, _) _ 0 0 0 [some _, some _] [] _
        refine jr_aload rfl rfl ?_
        refine jr_cv0 (mc' := 0) (ms' := 0) rfl jm_MD_hasMonths_n jm_MD_hasMonths_f rfl rfl rfl rfl rfl rfl rfl (Nat.zero_le _) (Nat.zero_le _) ?_
        show jx_W (jm_MD_hasMonths, _, _, _, _, _, _) _ 0 0 0 [some _] [] _
        refine jr_aload rfl rfl ?_
        refine jr_getR rfl rfl rfl rfl (Or.inl rfl) ?_
        refine jr_aload rfl rfl ?_
        refine jr_getI rfl rfl ?_
        refine jr_iald (len := 2) rfl rfl hw.1 (by omega) ?_
        refine jr_if_le rfl (fun m5MDhasMonths => ?_) (fun m5MDhasMonths => ?_)
        · refine jr_ic rfl ?_
          refine jr_zret rfl rfl rfl (Nat.zero_le _) (Nat.zero_le _) ?_
          refine jr_if_ne rfl (fun z => absurd (by decide) z) (fun _ => ?_)
          refine jr_ic rfl ?_
          refine jr_iret rfl rfl (Nat.zero_le _) (Nat.zero_le _) ?_
          first
            | exact ⟨rfl, (jz_Rel_p hRel0 hS2)⟩
            | exact ⟨rfl, hRel0⟩
            | (exfalso; omega)
            | (exfalso; simp (disch := omega) only [Int32.lt_iff_toInt_lt, Int32.le_iff_toInt_le, ← Int32.toInt_inj, Int32.reduceToInt, nI_toInt] at c3 c1JVisLength m5MDhasMonths; done)
            | (exfalso; simp (disch := omega) only [Int32.lt_iff_toInt_lt, Int32.le_iff_toInt_le, ← Int32.toInt_inj, Int32.reduceToInt, nI_toInt] at c3 c1JVisLength m5MDhasMonths; omega)
        · refine jr_ic rfl ?_
          refine jr_goto rfl ?_
          refine jr_zret rfl rfl rfl (Nat.zero_le _) (Nat.zero_le _) ?_
          refine jr_if_ne rfl (fun _ => ?_) (fun z => absurd z (by decide))
          refine jr_aload rfl rfl ?_
          refine jr_cv0 (mc' := 0) (ms' := 0) rfl jm_MD_layMay_n jm_MD_layMay_f rfl rfl rfl rfl rfl rfl rfl (Nat.zero_le _) (Nat.zero_le _) ?_
          refine eB_layMay hw hmo (fun S2 hS2 hM2 => ?_)
          refine jr_iload rfl rfl ?_
          refine jr_ic rfl ?_
          refine jr_ic rfl ?_
          refine jr_cs3 (mc' := 0) (ms' := 0) rfl jm_MD_isIn_n jm_MD_isIn_f rfl rfl rfl rfl rfl (Nat.zero_le _) (Nat.zero_le _) ?_
          show jx_W (jm_MD_isIn, _, _, _, _, _, _) _ 0 0 0 [some _, some _, some _] [] _
          refine jr_iload rfl rfl ?_
          refine jr_iload rfl rfl ?_
          refine jr_icmp_lt rfl (fun m2MDisIn => ?_) (fun m2MDisIn => ?_)
          · refine jr_ic rfl ?_
            refine jr_zret rfl rfl rfl (Nat.zero_le _) (Nat.zero_le _) ?_
            refine jr_if_eq rfl (fun _ => ?_) (fun z => absurd (by decide) z)
            refine jr_ic rfl ?_
            refine jr_iret rfl rfl (Nat.zero_le _) (Nat.zero_le _) ?_
            first
              | exact ⟨rfl, (jz_Rel_p hRel0 hS2)⟩
              | exact ⟨rfl, hRel0⟩
              | (exfalso; omega)
              | (exfalso; simp (disch := omega) only [Int32.lt_iff_toInt_lt, Int32.le_iff_toInt_le, ← Int32.toInt_inj, Int32.reduceToInt, nI_toInt] at c3 c1JVisLength m5MDhasMonths m2MDisIn; done)
              | (exfalso; simp (disch := omega) only [Int32.lt_iff_toInt_lt, Int32.le_iff_toInt_le, ← Int32.toInt_inj, Int32.reduceToInt, nI_toInt] at c3 c1JVisLength m5MDhasMonths m2MDisIn; omega)
          · refine jr_iload rfl rfl ?_
            refine jr_iload rfl rfl ?_
            refine jr_icmp_gt rfl (fun m5MDisIn => ?_) (fun m5MDisIn => ?_)
            · refine jr_ic rfl ?_
              refine jr_zret rfl rfl rfl (Nat.zero_le _) (Nat.zero_le _) ?_
              refine jr_if_eq rfl (fun _ => ?_) (fun z => absurd (by decide) z)
              refine jr_ic rfl ?_
              refine jr_iret rfl rfl (Nat.zero_le _) (Nat.zero_le _) ?_
              first
                | exact ⟨rfl, (jz_Rel_p hRel0 hS2)⟩
                | exact ⟨rfl, hRel0⟩
                | (exfalso; omega)
                | (exfalso; simp (disch := omega) only [Int32.lt_iff_toInt_lt, Int32.le_iff_toInt_le, ← Int32.toInt_inj, Int32.reduceToInt, nI_toInt] at c3 c1JVisLength m5MDhasMonths m2MDisIn m5MDisIn; done)
                | (exfalso; simp (disch := omega) only [Int32.lt_iff_toInt_lt, Int32.le_iff_toInt_le, ← Int32.toInt_inj, Int32.reduceToInt, nI_toInt] at c3 c1JVisLength m5MDhasMonths m2MDisIn m5MDisIn; omega)
            · refine jr_ic rfl ?_
              refine jr_goto rfl ?_
              refine jr_zret rfl rfl rfl (Nat.zero_le _) (Nat.zero_le _) ?_
              refine jr_if_eq rfl (fun z => absurd z (by decide)) (fun _ => ?_)
              refine jr_aload rfl rfl ?_
              refine jr_getR rfl rfl rfl rfl (Or.inl rfl) ?_
              refine jr_iload rfl rfl ?_
              first
                | (exfalso; omega)
                | (exfalso; simp (disch := omega) only [Int32.lt_iff_toInt_lt, Int32.le_iff_toInt_le, ← Int32.toInt_inj, Int32.reduceToInt, nI_toInt] at c3 c1JVisLength m5MDhasMonths m2MDisIn m5MDisIn; done)
                | (exfalso; simp (disch := omega) only [Int32.lt_iff_toInt_lt, Int32.le_iff_toInt_le, ← Int32.toInt_inj, Int32.reduceToInt, nI_toInt] at c3 c1JVisLength m5MDhasMonths m2MDisIn m5MDisIn; omega)
      · refine jr_iload rfl rfl ?_
        refine jr_ic rfl ?_
        refine jr_icmp_gt rfl (fun c4JVisLength => ?_) (fun c4JVisLength => ?_)
        · refine jr_ic rfl ?_
          refine jr_zret rfl rfl rfl (Nat.zero_le _) (Nat.zero_le _) ?_
          refine jr_if_eq rfl (fun _ => ?_) (fun z => absurd (by decide) z)
          refine jr_ic rfl ?_
          refine jr_zret rfl rfl rfl (Nat.zero_le _) (Nat.zero_le _) ?_
          refine jr_if_eq rfl (fun _ => ?_) (fun z => absurd (by decide) z)
          refine jr_ic rfl ?_
          refine jr_iret rfl rfl (Nat.zero_le _) (Nat.zero_le _) ?_
          show jx_W (jm_MD_may, d + 40, 0, 0, false, 1, _) _ 0 0 0 [some _, some _] [] _
          refine jr_aload rfl rfl ?_
          refine jr_cv0 (mc' := 0) (ms' := 0) rfl jm_MD_hasMonths_n jm_MD_hasMonths_f rfl rfl rfl rfl rfl rfl rfl (Nat.zero_le _) (Nat.zero_le _) ?_
          show jx_W (jm_MD_hasMonths, _, _, _, _, _, _) _ 0 0 0 [some _] [] _
          refine jr_aload rfl rfl ?_
          refine jr_getR rfl rfl rfl rfl (Or.inl rfl) ?_
          refine jr_aload rfl rfl ?_
          refine jr_getI rfl rfl ?_
          refine jr_iald (len := 2) rfl rfl hw.1 (by omega) ?_
          refine jr_if_le rfl (fun m5MDhasMonths => ?_) (fun m5MDhasMonths => ?_)
          · refine jr_ic rfl ?_
            refine jr_zret rfl rfl rfl (Nat.zero_le _) (Nat.zero_le _) ?_
            refine jr_if_ne rfl (fun z => absurd (by decide) z) (fun _ => ?_)
            refine jr_ic rfl ?_
            refine jr_iret rfl rfl (Nat.zero_le _) (Nat.zero_le _) ?_
            first
              | exact ⟨rfl, (jz_Rel_p hRel0 hS2)⟩
              | exact ⟨rfl, hRel0⟩
              | (exfalso; omega)
              | (exfalso; simp (disch := omega) only [Int32.lt_iff_toInt_lt, Int32.le_iff_toInt_le, ← Int32.toInt_inj, Int32.reduceToInt, nI_toInt] at c3 c1JVisLength c4JVisLength m5MDhasMonths; done)
              | (exfalso; simp (disch := omega) only [Int32.lt_iff_toInt_lt, Int32.le_iff_toInt_le, ← Int32.toInt_inj, Int32.reduceToInt, nI_toInt] at c3 c1JVisLength c4JVisLength m5MDhasMonths; omega)
          · refine jr_ic rfl ?_
            refine jr_goto rfl ?_
            refine jr_zret rfl rfl rfl (Nat.zero_le _) (Nat.zero_le _) ?_
            refine jr_if_ne rfl (fun _ => ?_) (fun z => absurd z (by decide))
            refine jr_aload rfl rfl ?_
            refine jr_cv0 (mc' := 0) (ms' := 0) rfl jm_MD_layMay_n jm_MD_layMay_f rfl rfl rfl rfl rfl rfl rfl (Nat.zero_le _) (Nat.zero_le _) ?_
            refine eB_layMay hw hmo (fun S2 hS2 hM2 => ?_)
            refine jr_iload rfl rfl ?_
            refine jr_ic rfl ?_
            refine jr_ic rfl ?_
            refine jr_cs3 (mc' := 0) (ms' := 0) rfl jm_MD_isIn_n jm_MD_isIn_f rfl rfl rfl rfl rfl (Nat.zero_le _) (Nat.zero_le _) ?_
            show jx_W (jm_MD_isIn, _, _, _, _, _, _) _ 0 0 0 [some _, some _, some _] [] _
            refine jr_iload rfl rfl ?_
            refine jr_iload rfl rfl ?_
            refine jr_icmp_lt rfl (fun m2MDisIn => ?_) (fun m2MDisIn => ?_)
            · refine jr_ic rfl ?_
              refine jr_zret rfl rfl rfl (Nat.zero_le _) (Nat.zero_le _) ?_
              refine jr_if_eq rfl (fun _ => ?_) (fun z => absurd (by decide) z)
              refine jr_ic rfl ?_
              refine jr_iret rfl rfl (Nat.zero_le _) (Nat.zero_le _) ?_
              first
                | exact ⟨rfl, (jz_Rel_p hRel0 hS2)⟩
                | exact ⟨rfl, hRel0⟩
                | (exfalso; omega)
                | (exfalso; simp (disch := omega) only [Int32.lt_iff_toInt_lt, Int32.le_iff_toInt_le, ← Int32.toInt_inj, Int32.reduceToInt, nI_toInt] at c3 c1JVisLength c4JVisLength m5MDhasMonths m2MDisIn; done)
                | (exfalso; simp (disch := omega) only [Int32.lt_iff_toInt_lt, Int32.le_iff_toInt_le, ← Int32.toInt_inj, Int32.reduceToInt, nI_toInt] at c3 c1JVisLength c4JVisLength m5MDhasMonths m2MDisIn; omega)
            · refine jr_iload rfl rfl ?_
              refine jr_iload rfl rfl ?_
              refine jr_icmp_gt rfl (fun m5MDisIn => ?_) (fun m5MDisIn => ?_)
              · refine jr_ic rfl ?_
                refine jr_zret rfl rfl rfl (Nat.zero_le _) (Nat.zero_le _) ?_
                refine jr_if_eq rfl (fun _ => ?_) (fun z => absurd (by decide) z)
                refine jr_ic rfl ?_
                refine jr_iret rfl rfl (Nat.zero_le _) (Nat.zero_le _) ?_
                first
                  | exact ⟨rfl, (jz_Rel_p hRel0 hS2)⟩
                  | exact ⟨rfl, hRel0⟩
                  | (exfalso; omega)
                  | (exfalso; simp (disch := omega) only [Int32.lt_iff_toInt_lt, Int32.le_iff_toInt_le, ← Int32.toInt_inj, Int32.reduceToInt, nI_toInt] at c3 c1JVisLength c4JVisLength m5MDhasMonths m2MDisIn m5MDisIn; done)
                  | (exfalso; simp (disch := omega) only [Int32.lt_iff_toInt_lt, Int32.le_iff_toInt_le, ← Int32.toInt_inj, Int32.reduceToInt, nI_toInt] at c3 c1JVisLength c4JVisLength m5MDhasMonths m2MDisIn m5MDisIn; omega)
              · refine jr_ic rfl ?_
                refine jr_goto rfl ?_
                refine jr_zret rfl rfl rfl (Nat.zero_le _) (Nat.zero_le _) ?_
                refine jr_if_eq rfl (fun z => absurd z (by decide)) (fun _ => ?_)
                refine jr_aload rfl rfl ?_
                refine jr_getR rfl rfl rfl rfl (Or.inl rfl) ?_
                refine jr_iload rfl rfl ?_
                first
                  | (exfalso; omega)
                  | (exfalso; simp (disch := omega) only [Int32.lt_iff_toInt_lt, Int32.le_iff_toInt_le, ← Int32.toInt_inj, Int32.reduceToInt, nI_toInt] at c3 c1JVisLength c4JVisLength m5MDhasMonths m2MDisIn m5MDisIn; done)
                  | (exfalso; simp (disch := omega) only [Int32.lt_iff_toInt_lt, Int32.le_iff_toInt_le, ← Int32.toInt_inj, Int32.reduceToInt, nI_toInt] at c3 c1JVisLength c4JVisLength m5MDhasMonths m2MDisIn m5MDisIn; omega)
        · refine jr_ic rfl ?_
          refine jr_goto rfl ?_
          refine jr_zret rfl rfl rfl (Nat.zero_le _) (Nat.zero_le _) ?_
          refine jr_if_eq rfl (fun z => absurd z (by decide)) (fun _ => ?_)
          refine jr_aload rfl rfl ?_
          refine jr_getI rfl rfl ?_
          refine jr_iload rfl rfl ?_
          refine jr_iushr rfl ?_
          refine jr_ic rfl ?_
          refine jr_iand rfl ?_
          refine jr_if_eq rfl (fun c9PollmayBe => ?_) (fun c9PollmayBe => ?_)
          · refine jr_ic rfl ?_
            refine jr_zret rfl rfl rfl (Nat.zero_le _) (Nat.zero_le _) ?_
            refine jr_if_eq rfl (fun _ => ?_) (fun z => absurd (by decide) z)
            refine jr_ic rfl ?_
            refine jr_iret rfl rfl (Nat.zero_le _) (Nat.zero_le _) ?_
            show jx_W (jm_MD_may, d + 40, 0, 0, false, 1, _) _ 0 0 0 [some _, some _] [] _
            refine jr_aload rfl rfl ?_
            refine jr_cv0 (mc' := 0) (ms' := 0) rfl jm_MD_hasMonths_n jm_MD_hasMonths_f rfl rfl rfl rfl rfl rfl rfl (Nat.zero_le _) (Nat.zero_le _) ?_
            show jx_W (jm_MD_hasMonths, _, _, _, _, _, _) _ 0 0 0 [some _] [] _
            refine jr_aload rfl rfl ?_
            refine jr_getR rfl rfl rfl rfl (Or.inl rfl) ?_
            refine jr_aload rfl rfl ?_
            refine jr_getI rfl rfl ?_
            refine jr_iald (len := 2) rfl rfl hw.1 (by omega) ?_
            refine jr_if_le rfl (fun m5MDhasMonths => ?_) (fun m5MDhasMonths => ?_)
            · refine jr_ic rfl ?_
              refine jr_zret rfl rfl rfl (Nat.zero_le _) (Nat.zero_le _) ?_
              refine jr_if_ne rfl (fun z => absurd (by decide) z) (fun _ => ?_)
              refine jr_ic rfl ?_
              refine jr_iret rfl rfl (Nat.zero_le _) (Nat.zero_le _) ?_
              first
                | exact ⟨rfl, (jz_Rel_p hRel0 hS2)⟩
                | exact ⟨rfl, hRel0⟩
                | (exfalso; omega)
                | (exfalso; simp (disch := omega) only [Int32.lt_iff_toInt_lt, Int32.le_iff_toInt_le, ← Int32.toInt_inj, Int32.reduceToInt, nI_toInt] at c3 c1JVisLength c4JVisLength c9PollmayBe m5MDhasMonths; done)
                | (exfalso; simp (disch := omega) only [Int32.lt_iff_toInt_lt, Int32.le_iff_toInt_le, ← Int32.toInt_inj, Int32.reduceToInt, nI_toInt] at c3 c1JVisLength c4JVisLength c9PollmayBe m5MDhasMonths; omega)
            · refine jr_ic rfl ?_
              refine jr_goto rfl ?_
              refine jr_zret rfl rfl rfl (Nat.zero_le _) (Nat.zero_le _) ?_
              refine jr_if_ne rfl (fun _ => ?_) (fun z => absurd z (by decide))
              refine jr_aload rfl rfl ?_
              refine jr_cv0 (mc' := 0) (ms' := 0) rfl jm_MD_layMay_n jm_MD_layMay_f rfl rfl rfl rfl rfl rfl rfl (Nat.zero_le _) (Nat.zero_le _) ?_
              refine eB_layMay hw hmo (fun S2 hS2 hM2 => ?_)
              refine jr_iload rfl rfl ?_
              refine jr_ic rfl ?_
              refine jr_ic rfl ?_
              refine jr_cs3 (mc' := 0) (ms' := 0) rfl jm_MD_isIn_n jm_MD_isIn_f rfl rfl rfl rfl rfl (Nat.zero_le _) (Nat.zero_le _) ?_
              show jx_W (jm_MD_isIn, _, _, _, _, _, _) _ 0 0 0 [some _, some _, some _] [] _
              refine jr_iload rfl rfl ?_
              refine jr_iload rfl rfl ?_
              refine jr_icmp_lt rfl (fun m2MDisIn => ?_) (fun m2MDisIn => ?_)
              · refine jr_ic rfl ?_
                refine jr_zret rfl rfl rfl (Nat.zero_le _) (Nat.zero_le _) ?_
                refine jr_if_eq rfl (fun _ => ?_) (fun z => absurd (by decide) z)
                refine jr_ic rfl ?_
                refine jr_iret rfl rfl (Nat.zero_le _) (Nat.zero_le _) ?_
                first
                  | exact ⟨rfl, (jz_Rel_p hRel0 hS2)⟩
                  | exact ⟨rfl, hRel0⟩
                  | (exfalso; omega)
                  | (exfalso; simp (disch := omega) only [Int32.lt_iff_toInt_lt, Int32.le_iff_toInt_le, ← Int32.toInt_inj, Int32.reduceToInt, nI_toInt] at c3 c1JVisLength c4JVisLength c9PollmayBe m5MDhasMonths m2MDisIn; done)
                  | (exfalso; simp (disch := omega) only [Int32.lt_iff_toInt_lt, Int32.le_iff_toInt_le, ← Int32.toInt_inj, Int32.reduceToInt, nI_toInt] at c3 c1JVisLength c4JVisLength c9PollmayBe m5MDhasMonths m2MDisIn; omega)
              · refine jr_iload rfl rfl ?_
                refine jr_iload rfl rfl ?_
                refine jr_icmp_gt rfl (fun m5MDisIn => ?_) (fun m5MDisIn => ?_)
                · refine jr_ic rfl ?_
                  refine jr_zret rfl rfl rfl (Nat.zero_le _) (Nat.zero_le _) ?_
                  refine jr_if_eq rfl (fun _ => ?_) (fun z => absurd (by decide) z)
                  refine jr_ic rfl ?_
                  refine jr_iret rfl rfl (Nat.zero_le _) (Nat.zero_le _) ?_
                  first
                    | exact ⟨rfl, (jz_Rel_p hRel0 hS2)⟩
                    | exact ⟨rfl, hRel0⟩
                    | (exfalso; omega)
                    | (exfalso; simp (disch := omega) only [Int32.lt_iff_toInt_lt, Int32.le_iff_toInt_le, ← Int32.toInt_inj, Int32.reduceToInt, nI_toInt] at c3 c1JVisLength c4JVisLength c9PollmayBe m5MDhasMonths m2MDisIn m5MDisIn; done)
                    | (exfalso; simp (disch := omega) only [Int32.lt_iff_toInt_lt, Int32.le_iff_toInt_le, ← Int32.toInt_inj, Int32.reduceToInt, nI_toInt] at c3 c1JVisLength c4JVisLength c9PollmayBe m5MDhasMonths m2MDisIn m5MDisIn; omega)
                · refine jr_ic rfl ?_
                  refine jr_goto rfl ?_
                  refine jr_zret rfl rfl rfl (Nat.zero_le _) (Nat.zero_le _) ?_
                  refine jr_if_eq rfl (fun z => absurd z (by decide)) (fun _ => ?_)
                  refine jr_aload rfl rfl ?_
                  refine jr_getR rfl rfl rfl rfl (Or.inl rfl) ?_
                  refine jr_iload rfl rfl ?_
                  first
                    | (exfalso; omega)
                    | (exfalso; simp (disch := omega) only [Int32.lt_iff_toInt_lt, Int32.le_iff_toInt_le, ← Int32.toInt_inj, Int32.reduceToInt, nI_toInt] at c3 c1JVisLength c4JVisLength c9PollmayBe m5MDhasMonths m2MDisIn m5MDisIn; done)
                    | (exfalso; simp (disch := omega) only [Int32.lt_iff_toInt_lt, Int32.le_iff_toInt_le, ← Int32.toInt_inj, Int32.reduceToInt, nI_toInt] at c3 c1JVisLength c4JVisLength c9PollmayBe m5MDhasMonths m2MDisIn m5MDisIn; omega)
          · refine jr_ic rfl ?_
            refine jr_goto rfl ?_
            refine jr_zret rfl rfl rfl (Nat.zero_le _) (Nat.zero_le _) ?_
            refine jr_if_eq rfl (fun z => absurd z (by decide)) (fun _ => ?_)
            refine jr_ic rfl ?_
            refine jr_goto rfl ?_
            refine jr_iret rfl rfl (Nat.zero_le _) (Nat.zero_le _) ?_
            show jx_W (jm_MD_may, d + 40, 0, 0, false, 1, _) _ 0 0 0 [some _, some _] [] _
            refine jr_aload rfl rfl ?_
            refine jr_cv0 (mc' := 0) (ms' := 0) rfl jm_MD_hasMonths_n jm_MD_hasMonths_f rfl rfl rfl rfl rfl rfl rfl (Nat.zero_le _) (Nat.zero_le _) ?_
            show jx_W (jm_MD_hasMonths, _, _, _, _, _, _) _ 0 0 0 [some _] [] _
            refine jr_aload rfl rfl ?_
            refine jr_getR rfl rfl rfl rfl (Or.inl rfl) ?_
            refine jr_aload rfl rfl ?_
            refine jr_getI rfl rfl ?_
            refine jr_iald (len := 2) rfl rfl hw.1 (by omega) ?_
            refine jr_if_le rfl (fun m5MDhasMonths => ?_) (fun m5MDhasMonths => ?_)
            · refine jr_ic rfl ?_
              refine jr_zret rfl rfl rfl (Nat.zero_le _) (Nat.zero_le _) ?_
              refine jr_if_ne rfl (fun z => absurd (by decide) z) (fun _ => ?_)
              refine jr_ic rfl ?_
              refine jr_iret rfl rfl (Nat.zero_le _) (Nat.zero_le _) ?_
              first
                | exact ⟨rfl, (jz_Rel_p hRel0 hS2)⟩
                | exact ⟨rfl, hRel0⟩
                | (exfalso; omega)
                | (exfalso; simp (disch := omega) only [Int32.lt_iff_toInt_lt, Int32.le_iff_toInt_le, ← Int32.toInt_inj, Int32.reduceToInt, nI_toInt] at c3 c1JVisLength c4JVisLength c9PollmayBe m5MDhasMonths; done)
                | (exfalso; simp (disch := omega) only [Int32.lt_iff_toInt_lt, Int32.le_iff_toInt_le, ← Int32.toInt_inj, Int32.reduceToInt, nI_toInt] at c3 c1JVisLength c4JVisLength c9PollmayBe m5MDhasMonths; omega)
            · refine jr_ic rfl ?_
              refine jr_goto rfl ?_
              refine jr_zret rfl rfl rfl (Nat.zero_le _) (Nat.zero_le _) ?_
              refine jr_if_ne rfl (fun _ => ?_) (fun z => absurd z (by decide))
              refine jr_aload rfl rfl ?_
              refine jr_cv0 (mc' := 0) (ms' := 0) rfl jm_MD_layMay_n jm_MD_layMay_f rfl rfl rfl rfl rfl rfl rfl (Nat.zero_le _) (Nat.zero_le _) ?_
              refine eB_layMay hw hmo (fun S2 hS2 hM2 => ?_)
              refine jr_iload rfl rfl ?_
              refine jr_ic rfl ?_
              refine jr_ic rfl ?_
              refine jr_cs3 (mc' := 0) (ms' := 0) rfl jm_MD_isIn_n jm_MD_isIn_f rfl rfl rfl rfl rfl (Nat.zero_le _) (Nat.zero_le _) ?_
              show jx_W (jm_MD_isIn, _, _, _, _, _, _) _ 0 0 0 [some _, some _, some _] [] _
              refine jr_iload rfl rfl ?_
              refine jr_iload rfl rfl ?_
              refine jr_icmp_lt rfl (fun m2MDisIn => ?_) (fun m2MDisIn => ?_)
              · refine jr_ic rfl ?_
                refine jr_zret rfl rfl rfl (Nat.zero_le _) (Nat.zero_le _) ?_
                refine jr_if_eq rfl (fun _ => ?_) (fun z => absurd (by decide) z)
                refine jr_ic rfl ?_
                refine jr_iret rfl rfl (Nat.zero_le _) (Nat.zero_le _) ?_
                first
                  | exact ⟨rfl, (jz_Rel_p hRel0 hS2)⟩
                  | exact ⟨rfl, hRel0⟩
                  | (exfalso; omega)
                  | (exfalso; simp (disch := omega) only [Int32.lt_iff_toInt_lt, Int32.le_iff_toInt_le, ← Int32.toInt_inj, Int32.reduceToInt, nI_toInt] at c3 c1JVisLength c4JVisLength c9PollmayBe m5MDhasMonths m2MDisIn; done)
                  | (exfalso; simp (disch := omega) only [Int32.lt_iff_toInt_lt, Int32.le_iff_toInt_le, ← Int32.toInt_inj, Int32.reduceToInt, nI_toInt] at c3 c1JVisLength c4JVisLength c9PollmayBe m5MDhasMonths m2MDisIn; omega)
              · refine jr_iload rfl rfl ?_
                refine jr_iload rfl rfl ?_
                refine jr_icmp_gt rfl (fun m5MDisIn => ?_) (fun m5MDisIn => ?_)
                · refine jr_ic rfl ?_
                  refine jr_zret rfl rfl rfl (Nat.zero_le _) (Nat.zero_le _) ?_
                  refine jr_if_eq rfl (fun _ => ?_) (fun z => absurd (by decide) z)
                  refine jr_ic rfl ?_
                  refine jr_iret rfl rfl (Nat.zero_le _) (Nat.zero_le _) ?_
                  first
                    | exact ⟨rfl, (jz_Rel_p hRel0 hS2)⟩
                    | exact ⟨rfl, hRel0⟩
                    | (exfalso; omega)
                    | (exfalso; simp (disch := omega) only [Int32.lt_iff_toInt_lt, Int32.le_iff_toInt_le, ← Int32.toInt_inj, Int32.reduceToInt, nI_toInt] at c3 c1JVisLength c4JVisLength c9PollmayBe m5MDhasMonths m2MDisIn m5MDisIn; done)
                    | (exfalso; simp (disch := omega) only [Int32.lt_iff_toInt_lt, Int32.le_iff_toInt_le, ← Int32.toInt_inj, Int32.reduceToInt, nI_toInt] at c3 c1JVisLength c4JVisLength c9PollmayBe m5MDhasMonths m2MDisIn m5MDisIn; omega)
                · refine jr_ic rfl ?_
                  refine jr_goto rfl ?_
                  refine jr_zret rfl rfl rfl (Nat.zero_le _) (Nat.zero_le _) ?_
                  refine jr_if_eq rfl (fun z => absurd z (by decide)) (fun _ => ?_)
                  refine jr_aload rfl rfl ?_
                  refine jr_getR rfl rfl rfl rfl (Or.inl rfl) ?_
                  refine jr_iload rfl rfl ?_
                  first
                    | (exfalso; omega)
                    | (exfalso; simp (disch := omega) only [Int32.lt_iff_toInt_lt, Int32.le_iff_toInt_le, ← Int32.toInt_inj, Int32.reduceToInt, nI_toInt] at c3 c1JVisLength c4JVisLength c9PollmayBe m5MDhasMonths m2MDisIn m5MDisIn; done)
                    | (exfalso; simp (disch := omega) only [Int32.lt_iff_toInt_lt, Int32.le_iff_toInt_le, ← Int32.toInt_inj, Int32.reduceToInt, nI_toInt] at c3 c1JVisLength c4JVisLength c9PollmayBe m5MDhasMonths m2MDisIn m5MDisIn; omega)
    · refine jr_ic rfl ?_
      refine jr_iret rfl rfl (Nat.zero_le _) (Nat.zero_le _) ?_
      show jx_W (jm_MD_may, d + 40, 0, 0, false, 1, _) _ 0 0 0 [some _, some _] [] _
      refine jr_aload rfl rfl ?_
      refine jr_cv0 (mc' := 0) (ms' := 0) rfl jm_MD_hasMonths_n jm_MD_hasMonths_f rfl rfl rfl rfl rfl rfl rfl (Nat.zero_le _) (Nat.zero_le _) ?_
      show jx_W (jm_MD_hasMonths, _, _, _, _, _, _) _ 0 0 0 [some _] [] _
      refine jr_aload rfl rfl ?_
      refine jr_getR rfl rfl rfl rfl (Or.inl rfl) ?_
      refine jr_aload rfl rfl ?_
      refine jr_getI rfl rfl ?_
      refine jr_iald (len := 2) rfl rfl hw.1 (by omega) ?_
      refine jr_if_le rfl (fun m5MDhasMonths => ?_) (fun m5MDhasMonths => ?_)
      · refine jr_ic rfl ?_
        refine jr_zret rfl rfl rfl (Nat.zero_le _) (Nat.zero_le _) ?_
        refine jr_if_ne rfl (fun z => absurd (by decide) z) (fun _ => ?_)
        refine jr_ic rfl ?_
        refine jr_iret rfl rfl (Nat.zero_le _) (Nat.zero_le _) ?_
        first
          | exact ⟨rfl, (jz_Rel_p hRel0 hS2)⟩
          | exact ⟨rfl, hRel0⟩
          | (exfalso; omega)
          | (exfalso; simp (disch := omega) only [Int32.lt_iff_toInt_lt, Int32.le_iff_toInt_le, ← Int32.toInt_inj, Int32.reduceToInt, nI_toInt] at c3 m5MDhasMonths; done)
          | (exfalso; simp (disch := omega) only [Int32.lt_iff_toInt_lt, Int32.le_iff_toInt_le, ← Int32.toInt_inj, Int32.reduceToInt, nI_toInt] at c3 m5MDhasMonths; omega)
      · refine jr_ic rfl ?_
        refine jr_goto rfl ?_
        refine jr_zret rfl rfl rfl (Nat.zero_le _) (Nat.zero_le _) ?_
        refine jr_if_ne rfl (fun _ => ?_) (fun z => absurd z (by decide))
        refine jr_aload rfl rfl ?_
        refine jr_cv0 (mc' := 0) (ms' := 0) rfl jm_MD_layMay_n jm_MD_layMay_f rfl rfl rfl rfl rfl rfl rfl (Nat.zero_le _) (Nat.zero_le _) ?_
        refine eB_layMay hw hmo (fun S2 hS2 hM2 => ?_)
        refine jr_iload rfl rfl ?_
        refine jr_ic rfl ?_
        refine jr_ic rfl ?_
        refine jr_cs3 (mc' := 0) (ms' := 0) rfl jm_MD_isIn_n jm_MD_isIn_f rfl rfl rfl rfl rfl (Nat.zero_le _) (Nat.zero_le _) ?_
        show jx_W (jm_MD_isIn, _, _, _, _, _, _) _ 0 0 0 [some _, some _, some _] [] _
        refine jr_iload rfl rfl ?_
        refine jr_iload rfl rfl ?_
        refine jr_icmp_lt rfl (fun m2MDisIn => ?_) (fun m2MDisIn => ?_)
        · refine jr_ic rfl ?_
          refine jr_zret rfl rfl rfl (Nat.zero_le _) (Nat.zero_le _) ?_
          refine jr_if_eq rfl (fun _ => ?_) (fun z => absurd (by decide) z)
          refine jr_ic rfl ?_
          refine jr_iret rfl rfl (Nat.zero_le _) (Nat.zero_le _) ?_
          first
            | exact ⟨rfl, (jz_Rel_p hRel0 hS2)⟩
            | exact ⟨rfl, hRel0⟩
            | (exfalso; omega)
            | (exfalso; simp (disch := omega) only [Int32.lt_iff_toInt_lt, Int32.le_iff_toInt_le, ← Int32.toInt_inj, Int32.reduceToInt, nI_toInt] at c3 m5MDhasMonths m2MDisIn; done)
            | (exfalso; simp (disch := omega) only [Int32.lt_iff_toInt_lt, Int32.le_iff_toInt_le, ← Int32.toInt_inj, Int32.reduceToInt, nI_toInt] at c3 m5MDhasMonths m2MDisIn; omega)
        · refine jr_iload rfl rfl ?_
          refine jr_iload rfl rfl ?_
          refine jr_icmp_gt rfl (fun m5MDisIn => ?_) (fun m5MDisIn => ?_)
          · refine jr_ic rfl ?_
            refine jr_zret rfl rfl rfl (Nat.zero_le _) (Nat.zero_le _) ?_
            refine jr_if_eq rfl (fun _ => ?_) (fun z => absurd (by decide) z)
            refine jr_ic rfl ?_
            refine jr_iret rfl rfl (Nat.zero_le _) (Nat.zero_le _) ?_
            first
              | exact ⟨rfl, (jz_Rel_p hRel0 hS2)⟩
              | exact ⟨rfl, hRel0⟩
              | (exfalso; omega)
              | (exfalso; simp (disch := omega) only [Int32.lt_iff_toInt_lt, Int32.le_iff_toInt_le, ← Int32.toInt_inj, Int32.reduceToInt, nI_toInt] at c3 m5MDhasMonths m2MDisIn m5MDisIn; done)
              | (exfalso; simp (disch := omega) only [Int32.lt_iff_toInt_lt, Int32.le_iff_toInt_le, ← Int32.toInt_inj, Int32.reduceToInt, nI_toInt] at c3 m5MDhasMonths m2MDisIn m5MDisIn; omega)
          · refine jr_ic rfl ?_
            refine jr_goto rfl ?_
            refine jr_zret rfl rfl rfl (Nat.zero_le _) (Nat.zero_le _) ?_
            refine jr_if_eq rfl (fun z => absurd z (by decide)) (fun _ => ?_)
            refine jr_aload rfl rfl ?_
            refine jr_getR rfl rfl rfl rfl (Or.inl rfl) ?_
            refine jr_iload rfl rfl ?_
            first
              | (exfalso; omega)
              | (exfalso; simp (disch := omega) only [Int32.lt_iff_toInt_lt, Int32.le_iff_toInt_le, ← Int32.toInt_inj, Int32.reduceToInt, nI_toInt] at c3 m5MDhasMonths m2MDisIn m5MDisIn; done)
              | (exfalso; simp (disch := omega) only [Int32.lt_iff_toInt_lt, Int32.le_iff_toInt_le, ← Int32.toInt_inj, Int32.reduceToInt, nI_toInt] at c3 m5MDhasMonths m2MDisIn m5MDisIn; omega)

set_option maxHeartbeats 800000 in
set_option maxRecDepth 100000 in
theorem pd_worth {d : Nat} {hc hm : jx_H} {x y : Int32} (hRel : jz_Rel hc hm) : jx_Ev jm_JV_worth (d + 40) 0 0 false 0 [jv_r 10 0, jv_i x, jv_i y] hc (fun r hc' => jx_Ev jm_MD_worth (d + 40) 0 0 false 1 [jv_r 11 0, jv_i x, jv_i y] hm (fun r' hm' => r = r' ∧ jz_Rel hc' hm')) := by
  have hRel0 := hRel
  obtain ⟨b, r, ⟨hw, hG, hr2, hto, hsp, hR, hA, hL⟩, hTa, hFa, hLy, hTi, hLe, hBo, hAc, hWo⟩ := hRel
  have hb2 := hw.2.1
  have hnm := hw.2.2.1.1
  have hnm5 := hnm.2
  have km1 : (jh_I hc 7 r 0).toInt = (jz_nm hm b : Int) := by rw [hR.1]; exact (congrArg Int32.toInt hnm.1).trans (nI_toInt (by omega))
  have km2 : (jh_I hm 66 0 b).toInt = (jz_nm hm b : Int) := (congrArg Int32.toInt hnm.1).trans (nI_toInt (by omega))
  have km3 : (jh_I hm 66 0 b - 1).toInt = (jz_nm hm b : Int) - 1 := by rw [Int32.toInt_sub, km2, show (1 : Int32).toInt = 1 from rfl]; exact jn_sm (by omega) (by omega)
  have hnp := hw.2.2.1.2.1
  have hnp5 := hnp.2
  have kp1 : (jh_I hc 7 r 3).toInt = (jz_np hm b : Int) := by rw [hR.2.1]; exact (congrArg Int32.toInt hnp.1).trans (nI_toInt (by omega))
  have kp2 : (jh_I hm 67 0 b).toInt = (jz_np hm b : Int) := (congrArg Int32.toInt hnp.1).trans (nI_toInt (by omega))
  have kp3 : (jh_I hm 67 0 b - 1).toInt = (jz_np hm b : Int) - 1 := by rw [Int32.toInt_sub, kp2, show (1 : Int32).toInt = 1 from rfl]; exact jn_sm (by omega) (by omega)
  rcases jz_3 (A := jC hm b 0 0 = 0 ∨ ¬ (0 ≤ x.toInt ∧ x.toInt < jz_np hm b)) y 0 31 (by decide) with hmo | ⟨hmo, i, rfl, -, hi, hi2⟩ | ⟨hmo, hi⟩
  · have hmo2 : (jz_nm hm b : Int) = 0 ∨ ¬ (0 ≤ x.toInt ∧ x.toInt < jz_np hm b) := hmo.elim (fun hmo => Or.inl (by rw [← km2]; exact congrArg Int32.toInt hmo)) Or.inr
    show jx_W (jm_JV_worth, d + 40, 0, 0, false, 0, _) _ 0 0 0 [some (jv_r 10 0), some (jv_i x), some (jv_i y)] [] _
    refine jr_aload rfl rfl ?_
    refine jr_getM rfl rfl rfl rfl hto ?_
    refine jr_getI rfl rfl ?_
    refine jr_if_eq rfl (fun c3 => ?_) (fun c3 => ?_)
    · refine jr_ic rfl ?_
      refine jr_iret rfl rfl (Nat.zero_le _) (Nat.zero_le _) ?_
      show jx_W (jm_MD_worth, d + 40, 0, 0, false, 1, _) _ 0 0 0 [some _, some _, some _] [] _
      refine jr_aload rfl rfl ?_
      refine jr_iload rfl rfl ?_
      refine jr_cv1 (mc' := 0) (ms' := 0) rfl jm_MD_isPerson_n jm_MD_isPerson_f rfl rfl rfl rfl rfl rfl rfl (Nat.zero_le _) (Nat.zero_le _) ?_
      show jx_W (jm_MD_isPerson, _, _, _, _, _, _) _ 0 0 0 [some _, some _] [] _
      refine jr_iload rfl rfl ?_
      refine jr_ic rfl ?_
      refine jr_aload rfl rfl ?_
      refine jr_cv0 (mc' := 0) (ms' := 0) rfl jm_MD_personMany_n jm_MD_personMany_f rfl rfl rfl rfl rfl rfl rfl (Nat.zero_le _) (Nat.zero_le _) ?_
      show jx_W (jm_MD_personMany, _, _, _, _, _, _) _ 0 0 0 [some _] [] _
      refine jr_aload rfl rfl ?_
      refine jr_getR rfl rfl rfl rfl (Or.inl rfl) ?_
      refine jr_aload rfl rfl ?_
      refine jr_getI rfl rfl ?_
      refine jr_iald (len := 2) rfl rfl hw.1 (by omega) ?_
      refine jr_iret rfl rfl (Nat.zero_le _) (Nat.zero_le _) ?_
      refine jr_ic rfl ?_
      refine jr_isub rfl ?_
      refine jr_cs3 (mc' := 0) (ms' := 0) rfl jm_MD_isIn_n jm_MD_isIn_f rfl rfl rfl rfl rfl (Nat.zero_le _) (Nat.zero_le _) ?_
      show jx_W (jm_MD_isIn, _, _, _, _, _, _) _ 0 0 0 [some _, some _, some _] [] _
      refine jr_iload rfl rfl ?_
      refine jr_iload rfl rfl ?_
      refine jr_icmp_lt rfl (fun m2MDisIn => ?_) (fun m2MDisIn => ?_)
      · refine jr_ic rfl ?_
        refine jr_zret rfl rfl rfl (Nat.zero_le _) (Nat.zero_le _) ?_
        refine jr_zret rfl rfl rfl (Nat.zero_le _) (Nat.zero_le _) ?_
        refine jr_if_eq rfl (fun _ => ?_) (fun z => absurd (by decide) z)
        refine jr_ic rfl ?_
        refine jr_iret rfl rfl (Nat.zero_le _) (Nat.zero_le _) ?_
        first
          | exact ⟨rfl, hRel0⟩
          | (exfalso; omega)
          | (exfalso; simp (disch := omega) only [Int32.lt_iff_toInt_lt, Int32.le_iff_toInt_le, ← Int32.toInt_inj, Int32.reduceToInt, nI_toInt] at c3 m2MDisIn; done)
          | (exfalso; simp (disch := omega) only [Int32.lt_iff_toInt_lt, Int32.le_iff_toInt_le, ← Int32.toInt_inj, Int32.reduceToInt, nI_toInt] at c3 m2MDisIn; omega)
      · refine jr_iload rfl rfl ?_
        refine jr_iload rfl rfl ?_
        refine jr_icmp_gt rfl (fun m5MDisIn => ?_) (fun m5MDisIn => ?_)
        · refine jr_ic rfl ?_
          refine jr_zret rfl rfl rfl (Nat.zero_le _) (Nat.zero_le _) ?_
          refine jr_zret rfl rfl rfl (Nat.zero_le _) (Nat.zero_le _) ?_
          refine jr_if_eq rfl (fun _ => ?_) (fun z => absurd (by decide) z)
          refine jr_ic rfl ?_
          refine jr_iret rfl rfl (Nat.zero_le _) (Nat.zero_le _) ?_
          first
            | exact ⟨rfl, hRel0⟩
            | (exfalso; omega)
            | (exfalso; simp (disch := omega) only [Int32.lt_iff_toInt_lt, Int32.le_iff_toInt_le, ← Int32.toInt_inj, Int32.reduceToInt, nI_toInt] at c3 m2MDisIn m5MDisIn; done)
            | (exfalso; simp (disch := omega) only [Int32.lt_iff_toInt_lt, Int32.le_iff_toInt_le, ← Int32.toInt_inj, Int32.reduceToInt, nI_toInt] at c3 m2MDisIn m5MDisIn; omega)
        · refine jr_ic rfl ?_
          refine jr_goto rfl ?_
          refine jr_zret rfl rfl rfl (Nat.zero_le _) (Nat.zero_le _) ?_
          refine jr_zret rfl rfl rfl (Nat.zero_le _) (Nat.zero_le _) ?_
          refine jr_if_eq rfl (fun z => absurd z (by decide)) (fun _ => ?_)
          refine jr_iload rfl rfl ?_
          refine jr_ic rfl ?_
          refine jr_ic rfl ?_
          refine jr_cs3 (mc' := 0) (ms' := 0) rfl jm_MD_isIn_n jm_MD_isIn_f rfl rfl rfl rfl rfl (Nat.zero_le _) (Nat.zero_le _) ?_
          show jx_W (jm_MD_isIn, _, _, _, _, _, _) _ 0 0 0 [some _, some _, some _] [] _
          refine jr_iload rfl rfl ?_
          refine jr_iload rfl rfl ?_
          refine jr_icmp_lt rfl (fun m2MDisIn_2 => ?_) (fun m2MDisIn_2 => ?_)
          · refine jr_ic rfl ?_
            refine jr_zret rfl rfl rfl (Nat.zero_le _) (Nat.zero_le _) ?_
            refine jr_if_eq rfl (fun _ => ?_) (fun z => absurd (by decide) z)
            refine jr_ic rfl ?_
            refine jr_iret rfl rfl (Nat.zero_le _) (Nat.zero_le _) ?_
            first
              | exact ⟨rfl, hRel0⟩
              | (exfalso; omega)
              | (exfalso; simp (disch := omega) only [Int32.lt_iff_toInt_lt, Int32.le_iff_toInt_le, ← Int32.toInt_inj, Int32.reduceToInt, nI_toInt] at c3 m2MDisIn m5MDisIn m2MDisIn_2; done)
              | (exfalso; simp (disch := omega) only [Int32.lt_iff_toInt_lt, Int32.le_iff_toInt_le, ← Int32.toInt_inj, Int32.reduceToInt, nI_toInt] at c3 m2MDisIn m5MDisIn m2MDisIn_2; omega)
          · refine jr_iload rfl rfl ?_
            refine jr_iload rfl rfl ?_
            refine jr_icmp_gt rfl (fun m5MDisIn_2 => ?_) (fun m5MDisIn_2 => ?_)
            · refine jr_ic rfl ?_
              refine jr_zret rfl rfl rfl (Nat.zero_le _) (Nat.zero_le _) ?_
              refine jr_if_eq rfl (fun _ => ?_) (fun z => absurd (by decide) z)
              refine jr_ic rfl ?_
              refine jr_iret rfl rfl (Nat.zero_le _) (Nat.zero_le _) ?_
              first
                | exact ⟨rfl, hRel0⟩
                | (exfalso; omega)
                | (exfalso; simp (disch := omega) only [Int32.lt_iff_toInt_lt, Int32.le_iff_toInt_le, ← Int32.toInt_inj, Int32.reduceToInt, nI_toInt] at c3 m2MDisIn m5MDisIn m2MDisIn_2 m5MDisIn_2; done)
                | (exfalso; simp (disch := omega) only [Int32.lt_iff_toInt_lt, Int32.le_iff_toInt_le, ← Int32.toInt_inj, Int32.reduceToInt, nI_toInt] at c3 m2MDisIn m5MDisIn m2MDisIn_2 m5MDisIn_2; omega)
            · refine jr_ic rfl ?_
              refine jr_goto rfl ?_
              refine jr_zret rfl rfl rfl (Nat.zero_le _) (Nat.zero_le _) ?_
              refine jr_if_eq rfl (fun z => absurd z (by decide)) (fun _ => ?_)
              refine jr_aload rfl rfl ?_
              refine jr_cv0 (mc' := 0) (ms' := 0) rfl jm_MD_hasMonths_n jm_MD_hasMonths_f rfl rfl rfl rfl rfl rfl rfl (Nat.zero_le _) (Nat.zero_le _) ?_
              show jx_W (jm_MD_hasMonths, _, _, _, _, _, _) _ 0 0 0 [some _] [] _
              refine jr_aload rfl rfl ?_
              refine jr_getR rfl rfl rfl rfl (Or.inl rfl) ?_
              refine jr_aload rfl rfl ?_
              refine jr_getI rfl rfl ?_
              refine jr_iald (len := 2) rfl rfl hw.1 (by omega) ?_
              refine jr_if_le rfl (fun m5MDhasMonths => ?_) (fun m5MDhasMonths => ?_)
              · refine jr_ic rfl ?_
                refine jr_zret rfl rfl rfl (Nat.zero_le _) (Nat.zero_le _) ?_
                refine jr_if_eq rfl (fun _ => ?_) (fun z => absurd (by decide) z)
                refine jr_ic rfl ?_
                refine jr_iret rfl rfl (Nat.zero_le _) (Nat.zero_le _) ?_
                first
                  | exact ⟨rfl, hRel0⟩
                  | (exfalso; omega)
                  | (exfalso; simp (disch := omega) only [Int32.lt_iff_toInt_lt, Int32.le_iff_toInt_le, ← Int32.toInt_inj, Int32.reduceToInt, nI_toInt] at c3 m2MDisIn m5MDisIn m2MDisIn_2 m5MDisIn_2 m5MDhasMonths; done)
                  | (exfalso; simp (disch := omega) only [Int32.lt_iff_toInt_lt, Int32.le_iff_toInt_le, ← Int32.toInt_inj, Int32.reduceToInt, nI_toInt] at c3 m2MDisIn m5MDisIn m2MDisIn_2 m5MDisIn_2 m5MDhasMonths; omega)
              · refine jr_ic rfl ?_
                refine jr_goto rfl ?_
                refine jr_zret rfl rfl rfl (Nat.zero_le _) (Nat.zero_le _) ?_
                refine jr_if_eq rfl (fun z => absurd z (by decide)) (fun _ => ?_)
                refine jr_aload rfl rfl ?_
                refine jr_iload rfl rfl ?_
                refine jr_iload rfl rfl ?_
                refine jr_cv2 (mc' := 0) (ms' := 0) rfl jm_MD_worthOf_n jm_MD_worthOf_f rfl rfl rfl rfl rfl rfl rfl (Nat.zero_le _) (Nat.zero_le _) ?_
                first
                  | (exfalso; omega)
                  | (exfalso; simp (disch := omega) only [Int32.lt_iff_toInt_lt, Int32.le_iff_toInt_le, ← Int32.toInt_inj, Int32.reduceToInt, nI_toInt] at c3 m2MDisIn m5MDisIn m2MDisIn_2 m5MDisIn_2 m5MDhasMonths; done)
                  | (exfalso; simp (disch := omega) only [Int32.lt_iff_toInt_lt, Int32.le_iff_toInt_le, ← Int32.toInt_inj, Int32.reduceToInt, nI_toInt] at c3 m2MDisIn m5MDisIn m2MDisIn_2 m5MDisIn_2 m5MDhasMonths; omega)
    · refine jr_aload rfl rfl ?_
      refine jr_getM rfl rfl rfl rfl hto ?_
      refine jr_iload rfl rfl ?_
      refine jr_cv1 (mc' := 0) (ms' := 0) rfl jm_Rep_hasPerson_n jm_Rep_hasPerson_f rfl rfl rfl rfl rfl rfl rfl (Nat.zero_le _) (Nat.zero_le _) ?_
      show jx_W (jm_Rep_hasPerson, _, _, _, _, _, _) _ 0 0 0 [some _, some _] [] _
      refine jr_iload rfl rfl ?_
      refine jr_if_lt rfl (fun c1RephasPerson => ?_) (fun c1RephasPerson => ?_)
      · refine jr_ic rfl ?_
        refine jr_zret rfl rfl rfl (Nat.zero_le _) (Nat.zero_le _) ?_
        refine jr_if_eq rfl (fun _ => ?_) (fun z => absurd (by decide) z)
        refine jr_ic rfl ?_
        refine jr_iret rfl rfl (Nat.zero_le _) (Nat.zero_le _) ?_
        show jx_W (jm_MD_worth, d + 40, 0, 0, false, 1, _) _ 0 0 0 [some _, some _, some _] [] _
        refine jr_aload rfl rfl ?_
        refine jr_iload rfl rfl ?_
        refine jr_cv1 (mc' := 0) (ms' := 0) rfl jm_MD_isPerson_n jm_MD_isPerson_f rfl rfl rfl rfl rfl rfl rfl (Nat.zero_le _) (Nat.zero_le _) ?_
        show jx_W (jm_MD_isPerson, _, _, _, _, _, _) _ 0 0 0 [some _, some _] [] _
        refine jr_iload rfl rfl ?_
        refine jr_ic rfl ?_
        refine jr_aload rfl rfl ?_
        refine jr_cv0 (mc' := 0) (ms' := 0) rfl jm_MD_personMany_n jm_MD_personMany_f rfl rfl rfl rfl rfl rfl rfl (Nat.zero_le _) (Nat.zero_le _) ?_
        show jx_W (jm_MD_personMany, _, _, _, _, _, _) _ 0 0 0 [some _] [] _
        refine jr_aload rfl rfl ?_
        refine jr_getR rfl rfl rfl rfl (Or.inl rfl) ?_
        refine jr_aload rfl rfl ?_
        refine jr_getI rfl rfl ?_
        refine jr_iald (len := 2) rfl rfl hw.1 (by omega) ?_
        refine jr_iret rfl rfl (Nat.zero_le _) (Nat.zero_le _) ?_
        refine jr_ic rfl ?_
        refine jr_isub rfl ?_
        refine jr_cs3 (mc' := 0) (ms' := 0) rfl jm_MD_isIn_n jm_MD_isIn_f rfl rfl rfl rfl rfl (Nat.zero_le _) (Nat.zero_le _) ?_
        show jx_W (jm_MD_isIn, _, _, _, _, _, _) _ 0 0 0 [some _, some _, some _] [] _
        refine jr_iload rfl rfl ?_
        refine jr_iload rfl rfl ?_
        refine jr_icmp_lt rfl (fun m2MDisIn => ?_) (fun m2MDisIn => ?_)
        · refine jr_ic rfl ?_
          refine jr_zret rfl rfl rfl (Nat.zero_le _) (Nat.zero_le _) ?_
          refine jr_zret rfl rfl rfl (Nat.zero_le _) (Nat.zero_le _) ?_
          refine jr_if_eq rfl (fun _ => ?_) (fun z => absurd (by decide) z)
          refine jr_ic rfl ?_
          refine jr_iret rfl rfl (Nat.zero_le _) (Nat.zero_le _) ?_
          first
            | exact ⟨rfl, hRel0⟩
            | (exfalso; omega)
            | (exfalso; simp (disch := omega) only [Int32.lt_iff_toInt_lt, Int32.le_iff_toInt_le, ← Int32.toInt_inj, Int32.reduceToInt, nI_toInt] at c3 c1RephasPerson m2MDisIn; done)
            | (exfalso; simp (disch := omega) only [Int32.lt_iff_toInt_lt, Int32.le_iff_toInt_le, ← Int32.toInt_inj, Int32.reduceToInt, nI_toInt] at c3 c1RephasPerson m2MDisIn; omega)
        · refine jr_iload rfl rfl ?_
          refine jr_iload rfl rfl ?_
          refine jr_icmp_gt rfl (fun m5MDisIn => ?_) (fun m5MDisIn => ?_)
          · refine jr_ic rfl ?_
            refine jr_zret rfl rfl rfl (Nat.zero_le _) (Nat.zero_le _) ?_
            refine jr_zret rfl rfl rfl (Nat.zero_le _) (Nat.zero_le _) ?_
            refine jr_if_eq rfl (fun _ => ?_) (fun z => absurd (by decide) z)
            refine jr_ic rfl ?_
            refine jr_iret rfl rfl (Nat.zero_le _) (Nat.zero_le _) ?_
            first
              | exact ⟨rfl, hRel0⟩
              | (exfalso; omega)
              | (exfalso; simp (disch := omega) only [Int32.lt_iff_toInt_lt, Int32.le_iff_toInt_le, ← Int32.toInt_inj, Int32.reduceToInt, nI_toInt] at c3 c1RephasPerson m2MDisIn m5MDisIn; done)
              | (exfalso; simp (disch := omega) only [Int32.lt_iff_toInt_lt, Int32.le_iff_toInt_le, ← Int32.toInt_inj, Int32.reduceToInt, nI_toInt] at c3 c1RephasPerson m2MDisIn m5MDisIn; omega)
          · refine jr_ic rfl ?_
            refine jr_goto rfl ?_
            refine jr_zret rfl rfl rfl (Nat.zero_le _) (Nat.zero_le _) ?_
            refine jr_zret rfl rfl rfl (Nat.zero_le _) (Nat.zero_le _) ?_
            refine jr_if_eq rfl (fun z => absurd z (by decide)) (fun _ => ?_)
            refine jr_iload rfl rfl ?_
            refine jr_ic rfl ?_
            refine jr_ic rfl ?_
            refine jr_cs3 (mc' := 0) (ms' := 0) rfl jm_MD_isIn_n jm_MD_isIn_f rfl rfl rfl rfl rfl (Nat.zero_le _) (Nat.zero_le _) ?_
            show jx_W (jm_MD_isIn, _, _, _, _, _, _) _ 0 0 0 [some _, some _, some _] [] _
            refine jr_iload rfl rfl ?_
            refine jr_iload rfl rfl ?_
            refine jr_icmp_lt rfl (fun m2MDisIn_2 => ?_) (fun m2MDisIn_2 => ?_)
            · refine jr_ic rfl ?_
              refine jr_zret rfl rfl rfl (Nat.zero_le _) (Nat.zero_le _) ?_
              refine jr_if_eq rfl (fun _ => ?_) (fun z => absurd (by decide) z)
              refine jr_ic rfl ?_
              refine jr_iret rfl rfl (Nat.zero_le _) (Nat.zero_le _) ?_
              first
                | exact ⟨rfl, hRel0⟩
                | (exfalso; omega)
                | (exfalso; simp (disch := omega) only [Int32.lt_iff_toInt_lt, Int32.le_iff_toInt_le, ← Int32.toInt_inj, Int32.reduceToInt, nI_toInt] at c3 c1RephasPerson m2MDisIn m5MDisIn m2MDisIn_2; done)
                | (exfalso; simp (disch := omega) only [Int32.lt_iff_toInt_lt, Int32.le_iff_toInt_le, ← Int32.toInt_inj, Int32.reduceToInt, nI_toInt] at c3 c1RephasPerson m2MDisIn m5MDisIn m2MDisIn_2; omega)
            · refine jr_iload rfl rfl ?_
              refine jr_iload rfl rfl ?_
              refine jr_icmp_gt rfl (fun m5MDisIn_2 => ?_) (fun m5MDisIn_2 => ?_)
              · refine jr_ic rfl ?_
                refine jr_zret rfl rfl rfl (Nat.zero_le _) (Nat.zero_le _) ?_
                refine jr_if_eq rfl (fun _ => ?_) (fun z => absurd (by decide) z)
                refine jr_ic rfl ?_
                refine jr_iret rfl rfl (Nat.zero_le _) (Nat.zero_le _) ?_
                first
                  | exact ⟨rfl, hRel0⟩
                  | (exfalso; omega)
                  | (exfalso; simp (disch := omega) only [Int32.lt_iff_toInt_lt, Int32.le_iff_toInt_le, ← Int32.toInt_inj, Int32.reduceToInt, nI_toInt] at c3 c1RephasPerson m2MDisIn m5MDisIn m2MDisIn_2 m5MDisIn_2; done)
                  | (exfalso; simp (disch := omega) only [Int32.lt_iff_toInt_lt, Int32.le_iff_toInt_le, ← Int32.toInt_inj, Int32.reduceToInt, nI_toInt] at c3 c1RephasPerson m2MDisIn m5MDisIn m2MDisIn_2 m5MDisIn_2; omega)
              · refine jr_ic rfl ?_
                refine jr_goto rfl ?_
                refine jr_zret rfl rfl rfl (Nat.zero_le _) (Nat.zero_le _) ?_
                refine jr_if_eq rfl (fun z => absurd z (by decide)) (fun _ => ?_)
                refine jr_aload rfl rfl ?_
                refine jr_cv0 (mc' := 0) (ms' := 0) rfl jm_MD_hasMonths_n jm_MD_hasMonths_f rfl rfl rfl rfl rfl rfl rfl (Nat.zero_le _) (Nat.zero_le _) ?_
                show jx_W (jm_MD_hasMonths, _, _, _, _, _, _) _ 0 0 0 [some _] [] _
                refine jr_aload rfl rfl ?_
                refine jr_getR rfl rfl rfl rfl (Or.inl rfl) ?_
                refine jr_aload rfl rfl ?_
                refine jr_getI rfl rfl ?_
                refine jr_iald (len := 2) rfl rfl hw.1 (by omega) ?_
                refine jr_if_le rfl (fun m5MDhasMonths => ?_) (fun m5MDhasMonths => ?_)
                · refine jr_ic rfl ?_
                  refine jr_zret rfl rfl rfl (Nat.zero_le _) (Nat.zero_le _) ?_
                  refine jr_if_eq rfl (fun _ => ?_) (fun z => absurd (by decide) z)
                  refine jr_ic rfl ?_
                  refine jr_iret rfl rfl (Nat.zero_le _) (Nat.zero_le _) ?_
                  first
                    | exact ⟨rfl, hRel0⟩
                    | (exfalso; omega)
                    | (exfalso; simp (disch := omega) only [Int32.lt_iff_toInt_lt, Int32.le_iff_toInt_le, ← Int32.toInt_inj, Int32.reduceToInt, nI_toInt] at c3 c1RephasPerson m2MDisIn m5MDisIn m2MDisIn_2 m5MDisIn_2 m5MDhasMonths; done)
                    | (exfalso; simp (disch := omega) only [Int32.lt_iff_toInt_lt, Int32.le_iff_toInt_le, ← Int32.toInt_inj, Int32.reduceToInt, nI_toInt] at c3 c1RephasPerson m2MDisIn m5MDisIn m2MDisIn_2 m5MDisIn_2 m5MDhasMonths; omega)
                · refine jr_ic rfl ?_
                  refine jr_goto rfl ?_
                  refine jr_zret rfl rfl rfl (Nat.zero_le _) (Nat.zero_le _) ?_
                  refine jr_if_eq rfl (fun z => absurd z (by decide)) (fun _ => ?_)
                  refine jr_aload rfl rfl ?_
                  refine jr_iload rfl rfl ?_
                  refine jr_iload rfl rfl ?_
                  refine jr_cv2 (mc' := 0) (ms' := 0) rfl jm_MD_worthOf_n jm_MD_worthOf_f rfl rfl rfl rfl rfl rfl rfl (Nat.zero_le _) (Nat.zero_le _) ?_
                  first
                    | (exfalso; omega)
                    | (exfalso; simp (disch := omega) only [Int32.lt_iff_toInt_lt, Int32.le_iff_toInt_le, ← Int32.toInt_inj, Int32.reduceToInt, nI_toInt] at c3 c1RephasPerson m2MDisIn m5MDisIn m2MDisIn_2 m5MDisIn_2 m5MDhasMonths; done)
                    | (exfalso; simp (disch := omega) only [Int32.lt_iff_toInt_lt, Int32.le_iff_toInt_le, ← Int32.toInt_inj, Int32.reduceToInt, nI_toInt] at c3 c1RephasPerson m2MDisIn m5MDisIn m2MDisIn_2 m5MDisIn_2 m5MDhasMonths; omega)
      · refine jr_iload rfl rfl ?_
        refine jr_aload rfl rfl ?_
        refine jr_getI rfl rfl ?_
        refine jr_icmp_ge rfl (fun c5RephasPerson => ?_) (fun c5RephasPerson => ?_)
        · refine jr_ic rfl ?_
          refine jr_zret rfl rfl rfl (Nat.zero_le _) (Nat.zero_le _) ?_
          refine jr_if_eq rfl (fun _ => ?_) (fun z => absurd (by decide) z)
          refine jr_ic rfl ?_
          refine jr_iret rfl rfl (Nat.zero_le _) (Nat.zero_le _) ?_
          show jx_W (jm_MD_worth, d + 40, 0, 0, false, 1, _) _ 0 0 0 [some _, some _, some _] [] _
          refine jr_aload rfl rfl ?_
          refine jr_iload rfl rfl ?_
          refine jr_cv1 (mc' := 0) (ms' := 0) rfl jm_MD_isPerson_n jm_MD_isPerson_f rfl rfl rfl rfl rfl rfl rfl (Nat.zero_le _) (Nat.zero_le _) ?_
          show jx_W (jm_MD_isPerson, _, _, _, _, _, _) _ 0 0 0 [some _, some _] [] _
          refine jr_iload rfl rfl ?_
          refine jr_ic rfl ?_
          refine jr_aload rfl rfl ?_
          refine jr_cv0 (mc' := 0) (ms' := 0) rfl jm_MD_personMany_n jm_MD_personMany_f rfl rfl rfl rfl rfl rfl rfl (Nat.zero_le _) (Nat.zero_le _) ?_
          show jx_W (jm_MD_personMany, _, _, _, _, _, _) _ 0 0 0 [some _] [] _
          refine jr_aload rfl rfl ?_
          refine jr_getR rfl rfl rfl rfl (Or.inl rfl) ?_
          refine jr_aload rfl rfl ?_
          refine jr_getI rfl rfl ?_
          refine jr_iald (len := 2) rfl rfl hw.1 (by omega) ?_
          refine jr_iret rfl rfl (Nat.zero_le _) (Nat.zero_le _) ?_
          refine jr_ic rfl ?_
          refine jr_isub rfl ?_
          refine jr_cs3 (mc' := 0) (ms' := 0) rfl jm_MD_isIn_n jm_MD_isIn_f rfl rfl rfl rfl rfl (Nat.zero_le _) (Nat.zero_le _) ?_
          show jx_W (jm_MD_isIn, _, _, _, _, _, _) _ 0 0 0 [some _, some _, some _] [] _
          refine jr_iload rfl rfl ?_
          refine jr_iload rfl rfl ?_
          refine jr_icmp_lt rfl (fun m2MDisIn => ?_) (fun m2MDisIn => ?_)
          · refine jr_ic rfl ?_
            refine jr_zret rfl rfl rfl (Nat.zero_le _) (Nat.zero_le _) ?_
            refine jr_zret rfl rfl rfl (Nat.zero_le _) (Nat.zero_le _) ?_
            refine jr_if_eq rfl (fun _ => ?_) (fun z => absurd (by decide) z)
            refine jr_ic rfl ?_
            refine jr_iret rfl rfl (Nat.zero_le _) (Nat.zero_le _) ?_
            first
              | exact ⟨rfl, hRel0⟩
              | (exfalso; omega)
              | (exfalso; simp (disch := omega) only [Int32.lt_iff_toInt_lt, Int32.le_iff_toInt_le, ← Int32.toInt_inj, Int32.reduceToInt, nI_toInt] at c3 c1RephasPerson c5RephasPerson m2MDisIn; done)
              | (exfalso; simp (disch := omega) only [Int32.lt_iff_toInt_lt, Int32.le_iff_toInt_le, ← Int32.toInt_inj, Int32.reduceToInt, nI_toInt] at c3 c1RephasPerson c5RephasPerson m2MDisIn; omega)
          · refine jr_iload rfl rfl ?_
            refine jr_iload rfl rfl ?_
            refine jr_icmp_gt rfl (fun m5MDisIn => ?_) (fun m5MDisIn => ?_)
            · refine jr_ic rfl ?_
              refine jr_zret rfl rfl rfl (Nat.zero_le _) (Nat.zero_le _) ?_
              refine jr_zret rfl rfl rfl (Nat.zero_le _) (Nat.zero_le _) ?_
              refine jr_if_eq rfl (fun _ => ?_) (fun z => absurd (by decide) z)
              refine jr_ic rfl ?_
              refine jr_iret rfl rfl (Nat.zero_le _) (Nat.zero_le _) ?_
              first
                | exact ⟨rfl, hRel0⟩
                | (exfalso; omega)
                | (exfalso; simp (disch := omega) only [Int32.lt_iff_toInt_lt, Int32.le_iff_toInt_le, ← Int32.toInt_inj, Int32.reduceToInt, nI_toInt] at c3 c1RephasPerson c5RephasPerson m2MDisIn m5MDisIn; done)
                | (exfalso; simp (disch := omega) only [Int32.lt_iff_toInt_lt, Int32.le_iff_toInt_le, ← Int32.toInt_inj, Int32.reduceToInt, nI_toInt] at c3 c1RephasPerson c5RephasPerson m2MDisIn m5MDisIn; omega)
            · refine jr_ic rfl ?_
              refine jr_goto rfl ?_
              refine jr_zret rfl rfl rfl (Nat.zero_le _) (Nat.zero_le _) ?_
              refine jr_zret rfl rfl rfl (Nat.zero_le _) (Nat.zero_le _) ?_
              refine jr_if_eq rfl (fun z => absurd z (by decide)) (fun _ => ?_)
              refine jr_iload rfl rfl ?_
              refine jr_ic rfl ?_
              refine jr_ic rfl ?_
              refine jr_cs3 (mc' := 0) (ms' := 0) rfl jm_MD_isIn_n jm_MD_isIn_f rfl rfl rfl rfl rfl (Nat.zero_le _) (Nat.zero_le _) ?_
              show jx_W (jm_MD_isIn, _, _, _, _, _, _) _ 0 0 0 [some _, some _, some _] [] _
              refine jr_iload rfl rfl ?_
              refine jr_iload rfl rfl ?_
              refine jr_icmp_lt rfl (fun m2MDisIn_2 => ?_) (fun m2MDisIn_2 => ?_)
              · refine jr_ic rfl ?_
                refine jr_zret rfl rfl rfl (Nat.zero_le _) (Nat.zero_le _) ?_
                refine jr_if_eq rfl (fun _ => ?_) (fun z => absurd (by decide) z)
                refine jr_ic rfl ?_
                refine jr_iret rfl rfl (Nat.zero_le _) (Nat.zero_le _) ?_
                first
                  | exact ⟨rfl, hRel0⟩
                  | (exfalso; omega)
                  | (exfalso; simp (disch := omega) only [Int32.lt_iff_toInt_lt, Int32.le_iff_toInt_le, ← Int32.toInt_inj, Int32.reduceToInt, nI_toInt] at c3 c1RephasPerson c5RephasPerson m2MDisIn m5MDisIn m2MDisIn_2; done)
                  | (exfalso; simp (disch := omega) only [Int32.lt_iff_toInt_lt, Int32.le_iff_toInt_le, ← Int32.toInt_inj, Int32.reduceToInt, nI_toInt] at c3 c1RephasPerson c5RephasPerson m2MDisIn m5MDisIn m2MDisIn_2; omega)
              · refine jr_iload rfl rfl ?_
                refine jr_iload rfl rfl ?_
                refine jr_icmp_gt rfl (fun m5MDisIn_2 => ?_) (fun m5MDisIn_2 => ?_)
                · refine jr_ic rfl ?_
                  refine jr_zret rfl rfl rfl (Nat.zero_le _) (Nat.zero_le _) ?_
                  refine jr_if_eq rfl (fun _ => ?_) (fun z => absurd (by decide) z)
                  refine jr_ic rfl ?_
                  refine jr_iret rfl rfl (Nat.zero_le _) (Nat.zero_le _) ?_
                  first
                    | exact ⟨rfl, hRel0⟩
                    | (exfalso; omega)
                    | (exfalso; simp (disch := omega) only [Int32.lt_iff_toInt_lt, Int32.le_iff_toInt_le, ← Int32.toInt_inj, Int32.reduceToInt, nI_toInt] at c3 c1RephasPerson c5RephasPerson m2MDisIn m5MDisIn m2MDisIn_2 m5MDisIn_2; done)
                    | (exfalso; simp (disch := omega) only [Int32.lt_iff_toInt_lt, Int32.le_iff_toInt_le, ← Int32.toInt_inj, Int32.reduceToInt, nI_toInt] at c3 c1RephasPerson c5RephasPerson m2MDisIn m5MDisIn m2MDisIn_2 m5MDisIn_2; omega)
                · refine jr_ic rfl ?_
                  refine jr_goto rfl ?_
                  refine jr_zret rfl rfl rfl (Nat.zero_le _) (Nat.zero_le _) ?_
                  refine jr_if_eq rfl (fun z => absurd z (by decide)) (fun _ => ?_)
                  refine jr_aload rfl rfl ?_
                  refine jr_cv0 (mc' := 0) (ms' := 0) rfl jm_MD_hasMonths_n jm_MD_hasMonths_f rfl rfl rfl rfl rfl rfl rfl (Nat.zero_le _) (Nat.zero_le _) ?_
                  show jx_W (jm_MD_hasMonths, _, _, _, _, _, _) _ 0 0 0 [some _] [] _
                  refine jr_aload rfl rfl ?_
                  refine jr_getR rfl rfl rfl rfl (Or.inl rfl) ?_
                  refine jr_aload rfl rfl ?_
                  refine jr_getI rfl rfl ?_
                  refine jr_iald (len := 2) rfl rfl hw.1 (by omega) ?_
                  refine jr_if_le rfl (fun m5MDhasMonths => ?_) (fun m5MDhasMonths => ?_)
                  · refine jr_ic rfl ?_
                    refine jr_zret rfl rfl rfl (Nat.zero_le _) (Nat.zero_le _) ?_
                    refine jr_if_eq rfl (fun _ => ?_) (fun z => absurd (by decide) z)
                    refine jr_ic rfl ?_
                    refine jr_iret rfl rfl (Nat.zero_le _) (Nat.zero_le _) ?_
                    first
                      | exact ⟨rfl, hRel0⟩
                      | (exfalso; omega)
                      | (exfalso; simp (disch := omega) only [Int32.lt_iff_toInt_lt, Int32.le_iff_toInt_le, ← Int32.toInt_inj, Int32.reduceToInt, nI_toInt] at c3 c1RephasPerson c5RephasPerson m2MDisIn m5MDisIn m2MDisIn_2 m5MDisIn_2 m5MDhasMonths; done)
                      | (exfalso; simp (disch := omega) only [Int32.lt_iff_toInt_lt, Int32.le_iff_toInt_le, ← Int32.toInt_inj, Int32.reduceToInt, nI_toInt] at c3 c1RephasPerson c5RephasPerson m2MDisIn m5MDisIn m2MDisIn_2 m5MDisIn_2 m5MDhasMonths; omega)
                  · refine jr_ic rfl ?_
                    refine jr_goto rfl ?_
                    refine jr_zret rfl rfl rfl (Nat.zero_le _) (Nat.zero_le _) ?_
                    refine jr_if_eq rfl (fun z => absurd z (by decide)) (fun _ => ?_)
                    refine jr_aload rfl rfl ?_
                    refine jr_iload rfl rfl ?_
                    refine jr_iload rfl rfl ?_
                    refine jr_cv2 (mc' := 0) (ms' := 0) rfl jm_MD_worthOf_n jm_MD_worthOf_f rfl rfl rfl rfl rfl rfl rfl (Nat.zero_le _) (Nat.zero_le _) ?_
                    first
                      | (exfalso; omega)
                      | (exfalso; simp (disch := omega) only [Int32.lt_iff_toInt_lt, Int32.le_iff_toInt_le, ← Int32.toInt_inj, Int32.reduceToInt, nI_toInt] at c3 c1RephasPerson c5RephasPerson m2MDisIn m5MDisIn m2MDisIn_2 m5MDisIn_2 m5MDhasMonths; done)
                      | (exfalso; simp (disch := omega) only [Int32.lt_iff_toInt_lt, Int32.le_iff_toInt_le, ← Int32.toInt_inj, Int32.reduceToInt, nI_toInt] at c3 c1RephasPerson c5RephasPerson m2MDisIn m5MDisIn m2MDisIn_2 m5MDisIn_2 m5MDhasMonths; omega)
        · refine jr_ic rfl ?_
          refine jr_goto rfl ?_
          refine jr_zret rfl rfl rfl (Nat.zero_le _) (Nat.zero_le _) ?_
          refine jr_if_eq rfl (fun z => absurd z (by decide)) (fun _ => ?_)
          refine jr_iload rfl rfl ?_
          refine jr_cs1 (mc' := 0) (ms' := 0) rfl jm_JV_isLength_n jm_JV_isLength_f rfl rfl rfl rfl rfl (Nat.zero_le _) (Nat.zero_le _) ?_
          show jx_W (jm_JV_isLength, _, _, _, _, _, _) _ 0 0 0 [some _] [] _
          refine jr_iload rfl rfl ?_
          refine jr_if_lt rfl (fun c1JVisLength => ?_) (fun c1JVisLength => ?_)
          · refine jr_ic rfl ?_
            refine jr_zret rfl rfl rfl (Nat.zero_le _) (Nat.zero_le _) ?_
            refine jr_if_ne rfl (fun z => absurd (by decide) z) (fun _ => ?_)
            refine jr_ic rfl ?_
            refine jr_iret rfl rfl (Nat.zero_le _) (Nat.zero_le _) ?_
            show jx_W (jm_MD_worth, d + 40, 0, 0, false, 1, _) _ 0 0 0 [some _, some _, some _] [] _
            refine jr_aload rfl rfl ?_
            refine jr_iload rfl rfl ?_
            refine jr_cv1 (mc' := 0) (ms' := 0) rfl jm_MD_isPerson_n jm_MD_isPerson_f rfl rfl rfl rfl rfl rfl rfl (Nat.zero_le _) (Nat.zero_le _) ?_
            show jx_W (jm_MD_isPerson, _, _, _, _, _, _) _ 0 0 0 [some _, some _] [] _
            refine jr_iload rfl rfl ?_
            refine jr_ic rfl ?_
            refine jr_aload rfl rfl ?_
            refine jr_cv0 (mc' := 0) (ms' := 0) rfl jm_MD_personMany_n jm_MD_personMany_f rfl rfl rfl rfl rfl rfl rfl (Nat.zero_le _) (Nat.zero_le _) ?_
            show jx_W (jm_MD_personMany, _, _, _, _, _, _) _ 0 0 0 [some _] [] _
            refine jr_aload rfl rfl ?_
            refine jr_getR rfl rfl rfl rfl (Or.inl rfl) ?_
            refine jr_aload rfl rfl ?_
            refine jr_getI rfl rfl ?_
            refine jr_iald (len := 2) rfl rfl hw.1 (by omega) ?_
            refine jr_iret rfl rfl (Nat.zero_le _) (Nat.zero_le _) ?_
            refine jr_ic rfl ?_
            refine jr_isub rfl ?_
            refine jr_cs3 (mc' := 0) (ms' := 0) rfl jm_MD_isIn_n jm_MD_isIn_f rfl rfl rfl rfl rfl (Nat.zero_le _) (Nat.zero_le _) ?_
            show jx_W (jm_MD_isIn, _, _, _, _, _, _) _ 0 0 0 [some _, some _, some _] [] _
            refine jr_iload rfl rfl ?_
            refine jr_iload rfl rfl ?_
            refine jr_icmp_lt rfl (fun m2MDisIn => ?_) (fun m2MDisIn => ?_)
            · refine jr_ic rfl ?_
              refine jr_zret rfl rfl rfl (Nat.zero_le _) (Nat.zero_le _) ?_
              refine jr_zret rfl rfl rfl (Nat.zero_le _) (Nat.zero_le _) ?_
              refine jr_if_eq rfl (fun _ => ?_) (fun z => absurd (by decide) z)
              refine jr_ic rfl ?_
              refine jr_iret rfl rfl (Nat.zero_le _) (Nat.zero_le _) ?_
              first
                | exact ⟨rfl, hRel0⟩
                | (exfalso; omega)
                | (exfalso; simp (disch := omega) only [Int32.lt_iff_toInt_lt, Int32.le_iff_toInt_le, ← Int32.toInt_inj, Int32.reduceToInt, nI_toInt] at c3 c1RephasPerson c5RephasPerson c1JVisLength m2MDisIn; done)
                | (exfalso; simp (disch := omega) only [Int32.lt_iff_toInt_lt, Int32.le_iff_toInt_le, ← Int32.toInt_inj, Int32.reduceToInt, nI_toInt] at c3 c1RephasPerson c5RephasPerson c1JVisLength m2MDisIn; omega)
            · refine jr_iload rfl rfl ?_
              refine jr_iload rfl rfl ?_
              refine jr_icmp_gt rfl (fun m5MDisIn => ?_) (fun m5MDisIn => ?_)
              · refine jr_ic rfl ?_
                refine jr_zret rfl rfl rfl (Nat.zero_le _) (Nat.zero_le _) ?_
                refine jr_zret rfl rfl rfl (Nat.zero_le _) (Nat.zero_le _) ?_
                refine jr_if_eq rfl (fun _ => ?_) (fun z => absurd (by decide) z)
                refine jr_ic rfl ?_
                refine jr_iret rfl rfl (Nat.zero_le _) (Nat.zero_le _) ?_
                first
                  | exact ⟨rfl, hRel0⟩
                  | (exfalso; omega)
                  | (exfalso; simp (disch := omega) only [Int32.lt_iff_toInt_lt, Int32.le_iff_toInt_le, ← Int32.toInt_inj, Int32.reduceToInt, nI_toInt] at c3 c1RephasPerson c5RephasPerson c1JVisLength m2MDisIn m5MDisIn; done)
                  | (exfalso; simp (disch := omega) only [Int32.lt_iff_toInt_lt, Int32.le_iff_toInt_le, ← Int32.toInt_inj, Int32.reduceToInt, nI_toInt] at c3 c1RephasPerson c5RephasPerson c1JVisLength m2MDisIn m5MDisIn; omega)
              · refine jr_ic rfl ?_
                refine jr_goto rfl ?_
                refine jr_zret rfl rfl rfl (Nat.zero_le _) (Nat.zero_le _) ?_
                refine jr_zret rfl rfl rfl (Nat.zero_le _) (Nat.zero_le _) ?_
                refine jr_if_eq rfl (fun z => absurd z (by decide)) (fun _ => ?_)
                refine jr_iload rfl rfl ?_
                refine jr_ic rfl ?_
                refine jr_ic rfl ?_
                refine jr_cs3 (mc' := 0) (ms' := 0) rfl jm_MD_isIn_n jm_MD_isIn_f rfl rfl rfl rfl rfl (Nat.zero_le _) (Nat.zero_le _) ?_
                show jx_W (jm_MD_isIn, _, _, _, _, _, _) _ 0 0 0 [some _, some _, some _] [] _
                refine jr_iload rfl rfl ?_
                refine jr_iload rfl rfl ?_
                refine jr_icmp_lt rfl (fun m2MDisIn_2 => ?_) (fun m2MDisIn_2 => ?_)
                · refine jr_ic rfl ?_
                  refine jr_zret rfl rfl rfl (Nat.zero_le _) (Nat.zero_le _) ?_
                  refine jr_if_eq rfl (fun _ => ?_) (fun z => absurd (by decide) z)
                  refine jr_ic rfl ?_
                  refine jr_iret rfl rfl (Nat.zero_le _) (Nat.zero_le _) ?_
                  first
                    | exact ⟨rfl, hRel0⟩
                    | (exfalso; omega)
                    | (exfalso; simp (disch := omega) only [Int32.lt_iff_toInt_lt, Int32.le_iff_toInt_le, ← Int32.toInt_inj, Int32.reduceToInt, nI_toInt] at c3 c1RephasPerson c5RephasPerson c1JVisLength m2MDisIn m5MDisIn m2MDisIn_2; done)
                    | (exfalso; simp (disch := omega) only [Int32.lt_iff_toInt_lt, Int32.le_iff_toInt_le, ← Int32.toInt_inj, Int32.reduceToInt, nI_toInt] at c3 c1RephasPerson c5RephasPerson c1JVisLength m2MDisIn m5MDisIn m2MDisIn_2; omega)
                · refine jr_iload rfl rfl ?_
                  refine jr_iload rfl rfl ?_
                  refine jr_icmp_gt rfl (fun m5MDisIn_2 => ?_) (fun m5MDisIn_2 => ?_)
                  · refine jr_ic rfl ?_
                    refine jr_zret rfl rfl rfl (Nat.zero_le _) (Nat.zero_le _) ?_
                    refine jr_if_eq rfl (fun _ => ?_) (fun z => absurd (by decide) z)
                    refine jr_ic rfl ?_
                    refine jr_iret rfl rfl (Nat.zero_le _) (Nat.zero_le _) ?_
                    first
                      | exact ⟨rfl, hRel0⟩
                      | (exfalso; omega)
                      | (exfalso; simp (disch := omega) only [Int32.lt_iff_toInt_lt, Int32.le_iff_toInt_le, ← Int32.toInt_inj, Int32.reduceToInt, nI_toInt] at c3 c1RephasPerson c5RephasPerson c1JVisLength m2MDisIn m5MDisIn m2MDisIn_2 m5MDisIn_2; done)
                      | (exfalso; simp (disch := omega) only [Int32.lt_iff_toInt_lt, Int32.le_iff_toInt_le, ← Int32.toInt_inj, Int32.reduceToInt, nI_toInt] at c3 c1RephasPerson c5RephasPerson c1JVisLength m2MDisIn m5MDisIn m2MDisIn_2 m5MDisIn_2; omega)
                  · refine jr_ic rfl ?_
                    refine jr_goto rfl ?_
                    refine jr_zret rfl rfl rfl (Nat.zero_le _) (Nat.zero_le _) ?_
                    refine jr_if_eq rfl (fun z => absurd z (by decide)) (fun _ => ?_)
                    refine jr_aload rfl rfl ?_
                    refine jr_cv0 (mc' := 0) (ms' := 0) rfl jm_MD_hasMonths_n jm_MD_hasMonths_f rfl rfl rfl rfl rfl rfl rfl (Nat.zero_le _) (Nat.zero_le _) ?_
                    show jx_W (jm_MD_hasMonths, _, _, _, _, _, _) _ 0 0 0 [some _] [] _
                    refine jr_aload rfl rfl ?_
                    refine jr_getR rfl rfl rfl rfl (Or.inl rfl) ?_
                    refine jr_aload rfl rfl ?_
                    refine jr_getI rfl rfl ?_
                    refine jr_iald (len := 2) rfl rfl hw.1 (by omega) ?_
                    refine jr_if_le rfl (fun m5MDhasMonths => ?_) (fun m5MDhasMonths => ?_)
                    · refine jr_ic rfl ?_
                      refine jr_zret rfl rfl rfl (Nat.zero_le _) (Nat.zero_le _) ?_
                      refine jr_if_eq rfl (fun _ => ?_) (fun z => absurd (by decide) z)
                      refine jr_ic rfl ?_
                      refine jr_iret rfl rfl (Nat.zero_le _) (Nat.zero_le _) ?_
                      first
                        | exact ⟨rfl, hRel0⟩
                        | (exfalso; omega)
                        | (exfalso; simp (disch := omega) only [Int32.lt_iff_toInt_lt, Int32.le_iff_toInt_le, ← Int32.toInt_inj, Int32.reduceToInt, nI_toInt] at c3 c1RephasPerson c5RephasPerson c1JVisLength m2MDisIn m5MDisIn m2MDisIn_2 m5MDisIn_2 m5MDhasMonths; done)
                        | (exfalso; simp (disch := omega) only [Int32.lt_iff_toInt_lt, Int32.le_iff_toInt_le, ← Int32.toInt_inj, Int32.reduceToInt, nI_toInt] at c3 c1RephasPerson c5RephasPerson c1JVisLength m2MDisIn m5MDisIn m2MDisIn_2 m5MDisIn_2 m5MDhasMonths; omega)
                    · refine jr_ic rfl ?_
                      refine jr_goto rfl ?_
                      refine jr_zret rfl rfl rfl (Nat.zero_le _) (Nat.zero_le _) ?_
                      refine jr_if_eq rfl (fun z => absurd z (by decide)) (fun _ => ?_)
                      refine jr_aload rfl rfl ?_
                      refine jr_iload rfl rfl ?_
                      refine jr_iload rfl rfl ?_
                      refine jr_cv2 (mc' := 0) (ms' := 0) rfl jm_MD_worthOf_n jm_MD_worthOf_f rfl rfl rfl rfl rfl rfl rfl (Nat.zero_le _) (Nat.zero_le _) ?_
                      first
                        | (exfalso; omega)
                        | (exfalso; simp (disch := omega) only [Int32.lt_iff_toInt_lt, Int32.le_iff_toInt_le, ← Int32.toInt_inj, Int32.reduceToInt, nI_toInt] at c3 c1RephasPerson c5RephasPerson c1JVisLength m2MDisIn m5MDisIn m2MDisIn_2 m5MDisIn_2 m5MDhasMonths; done)
                        | (exfalso; simp (disch := omega) only [Int32.lt_iff_toInt_lt, Int32.le_iff_toInt_le, ← Int32.toInt_inj, Int32.reduceToInt, nI_toInt] at c3 c1RephasPerson c5RephasPerson c1JVisLength m2MDisIn m5MDisIn m2MDisIn_2 m5MDisIn_2 m5MDhasMonths; omega)
          · refine jr_iload rfl rfl ?_
            refine jr_ic rfl ?_
            refine jr_icmp_gt rfl (fun c4JVisLength => ?_) (fun c4JVisLength => ?_)
            · refine jr_ic rfl ?_
              refine jr_zret rfl rfl rfl (Nat.zero_le _) (Nat.zero_le _) ?_
              refine jr_if_ne rfl (fun z => absurd (by decide) z) (fun _ => ?_)
              refine jr_ic rfl ?_
              refine jr_iret rfl rfl (Nat.zero_le _) (Nat.zero_le _) ?_
              show jx_W (jm_MD_worth, d + 40, 0, 0, false, 1, _) _ 0 0 0 [some _, some _, some _] [] _
              refine jr_aload rfl rfl ?_
              refine jr_iload rfl rfl ?_
              refine jr_cv1 (mc' := 0) (ms' := 0) rfl jm_MD_isPerson_n jm_MD_isPerson_f rfl rfl rfl rfl rfl rfl rfl (Nat.zero_le _) (Nat.zero_le _) ?_
              show jx_W (jm_MD_isPerson, _, _, _, _, _, _) _ 0 0 0 [some _, some _] [] _
              refine jr_iload rfl rfl ?_
              refine jr_ic rfl ?_
              refine jr_aload rfl rfl ?_
              refine jr_cv0 (mc' := 0) (ms' := 0) rfl jm_MD_personMany_n jm_MD_personMany_f rfl rfl rfl rfl rfl rfl rfl (Nat.zero_le _) (Nat.zero_le _) ?_
              show jx_W (jm_MD_personMany, _, _, _, _, _, _) _ 0 0 0 [some _] [] _
              refine jr_aload rfl rfl ?_
              refine jr_getR rfl rfl rfl rfl (Or.inl rfl) ?_
              refine jr_aload rfl rfl ?_
              refine jr_getI rfl rfl ?_
              refine jr_iald (len := 2) rfl rfl hw.1 (by omega) ?_
              refine jr_iret rfl rfl (Nat.zero_le _) (Nat.zero_le _) ?_
              refine jr_ic rfl ?_
              refine jr_isub rfl ?_
              refine jr_cs3 (mc' := 0) (ms' := 0) rfl jm_MD_isIn_n jm_MD_isIn_f rfl rfl rfl rfl rfl (Nat.zero_le _) (Nat.zero_le _) ?_
              show jx_W (jm_MD_isIn, _, _, _, _, _, _) _ 0 0 0 [some _, some _, some _] [] _
              refine jr_iload rfl rfl ?_
              refine jr_iload rfl rfl ?_
              refine jr_icmp_lt rfl (fun m2MDisIn => ?_) (fun m2MDisIn => ?_)
              · refine jr_ic rfl ?_
                refine jr_zret rfl rfl rfl (Nat.zero_le _) (Nat.zero_le _) ?_
                refine jr_zret rfl rfl rfl (Nat.zero_le _) (Nat.zero_le _) ?_
                refine jr_if_eq rfl (fun _ => ?_) (fun z => absurd (by decide) z)
                refine jr_ic rfl ?_
                refine jr_iret rfl rfl (Nat.zero_le _) (Nat.zero_le _) ?_
                first
                  | exact ⟨rfl, hRel0⟩
                  | (exfalso; omega)
                  | (exfalso; simp (disch := omega) only [Int32.lt_iff_toInt_lt, Int32.le_iff_toInt_le, ← Int32.toInt_inj, Int32.reduceToInt, nI_toInt] at c3 c1RephasPerson c5RephasPerson c1JVisLength c4JVisLength m2MDisIn; done)
                  | (exfalso; simp (disch := omega) only [Int32.lt_iff_toInt_lt, Int32.le_iff_toInt_le, ← Int32.toInt_inj, Int32.reduceToInt, nI_toInt] at c3 c1RephasPerson c5RephasPerson c1JVisLength c4JVisLength m2MDisIn; omega)
              · refine jr_iload rfl rfl ?_
                refine jr_iload rfl rfl ?_
                refine jr_icmp_gt rfl (fun m5MDisIn => ?_) (fun m5MDisIn => ?_)
                · refine jr_ic rfl ?_
                  refine jr_zret rfl rfl rfl (Nat.zero_le _) (Nat.zero_le _) ?_
                  refine jr_zret rfl rfl rfl (Nat.zero_le _) (Nat.zero_le _) ?_
                  refine jr_if_eq rfl (fun _ => ?_) (fun z => absurd (by decide) z)
                  refine jr_ic rfl ?_
                  refine jr_iret rfl rfl (Nat.zero_le _) (Nat.zero_le _) ?_
                  first
                    | exact ⟨rfl, hRel0⟩
                    | (exfalso; omega)
                    | (exfalso; simp (disch := omega) only [Int32.lt_iff_toInt_lt, Int32.le_iff_toInt_le, ← Int32.toInt_inj, Int32.reduceToInt, nI_toInt] at c3 c1RephasPerson c5RephasPerson c1JVisLength c4JVisLength m2MDisIn m5MDisIn; done)
                    | (exfalso; simp (disch := omega) only [Int32.lt_iff_toInt_lt, Int32.le_iff_toInt_le, ← Int32.toInt_inj, Int32.reduceToInt, nI_toInt] at c3 c1RephasPerson c5RephasPerson c1JVisLength c4JVisLength m2MDisIn m5MDisIn; omega)
                · refine jr_ic rfl ?_
                  refine jr_goto rfl ?_
                  refine jr_zret rfl rfl rfl (Nat.zero_le _) (Nat.zero_le _) ?_
                  refine jr_zret rfl rfl rfl (Nat.zero_le _) (Nat.zero_le _) ?_
                  refine jr_if_eq rfl (fun z => absurd z (by decide)) (fun _ => ?_)
                  refine jr_iload rfl rfl ?_
                  refine jr_ic rfl ?_
                  refine jr_ic rfl ?_
                  refine jr_cs3 (mc' := 0) (ms' := 0) rfl jm_MD_isIn_n jm_MD_isIn_f rfl rfl rfl rfl rfl (Nat.zero_le _) (Nat.zero_le _) ?_
                  show jx_W (jm_MD_isIn, _, _, _, _, _, _) _ 0 0 0 [some _, some _, some _] [] _
                  refine jr_iload rfl rfl ?_
                  refine jr_iload rfl rfl ?_
                  refine jr_icmp_lt rfl (fun m2MDisIn_2 => ?_) (fun m2MDisIn_2 => ?_)
                  · refine jr_ic rfl ?_
                    refine jr_zret rfl rfl rfl (Nat.zero_le _) (Nat.zero_le _) ?_
                    refine jr_if_eq rfl (fun _ => ?_) (fun z => absurd (by decide) z)
                    refine jr_ic rfl ?_
                    refine jr_iret rfl rfl (Nat.zero_le _) (Nat.zero_le _) ?_
                    first
                      | exact ⟨rfl, hRel0⟩
                      | (exfalso; omega)
                      | (exfalso; simp (disch := omega) only [Int32.lt_iff_toInt_lt, Int32.le_iff_toInt_le, ← Int32.toInt_inj, Int32.reduceToInt, nI_toInt] at c3 c1RephasPerson c5RephasPerson c1JVisLength c4JVisLength m2MDisIn m5MDisIn m2MDisIn_2; done)
                      | (exfalso; simp (disch := omega) only [Int32.lt_iff_toInt_lt, Int32.le_iff_toInt_le, ← Int32.toInt_inj, Int32.reduceToInt, nI_toInt] at c3 c1RephasPerson c5RephasPerson c1JVisLength c4JVisLength m2MDisIn m5MDisIn m2MDisIn_2; omega)
                  · refine jr_iload rfl rfl ?_
                    refine jr_iload rfl rfl ?_
                    refine jr_icmp_gt rfl (fun m5MDisIn_2 => ?_) (fun m5MDisIn_2 => ?_)
                    · refine jr_ic rfl ?_
                      refine jr_zret rfl rfl rfl (Nat.zero_le _) (Nat.zero_le _) ?_
                      refine jr_if_eq rfl (fun _ => ?_) (fun z => absurd (by decide) z)
                      refine jr_ic rfl ?_
                      refine jr_iret rfl rfl (Nat.zero_le _) (Nat.zero_le _) ?_
                      first
                        | exact ⟨rfl, hRel0⟩
                        | (exfalso; omega)
                        | (exfalso; simp (disch := omega) only [Int32.lt_iff_toInt_lt, Int32.le_iff_toInt_le, ← Int32.toInt_inj, Int32.reduceToInt, nI_toInt] at c3 c1RephasPerson c5RephasPerson c1JVisLength c4JVisLength m2MDisIn m5MDisIn m2MDisIn_2 m5MDisIn_2; done)
                        | (exfalso; simp (disch := omega) only [Int32.lt_iff_toInt_lt, Int32.le_iff_toInt_le, ← Int32.toInt_inj, Int32.reduceToInt, nI_toInt] at c3 c1RephasPerson c5RephasPerson c1JVisLength c4JVisLength m2MDisIn m5MDisIn m2MDisIn_2 m5MDisIn_2; omega)
                    · refine jr_ic rfl ?_
                      refine jr_goto rfl ?_
                      refine jr_zret rfl rfl rfl (Nat.zero_le _) (Nat.zero_le _) ?_
                      refine jr_if_eq rfl (fun z => absurd z (by decide)) (fun _ => ?_)
                      refine jr_aload rfl rfl ?_
                      refine jr_cv0 (mc' := 0) (ms' := 0) rfl jm_MD_hasMonths_n jm_MD_hasMonths_f rfl rfl rfl rfl rfl rfl rfl (Nat.zero_le _) (Nat.zero_le _) ?_
                      show jx_W (jm_MD_hasMonths, _, _, _, _, _, _) _ 0 0 0 [some _] [] _
                      refine jr_aload rfl rfl ?_
                      refine jr_getR rfl rfl rfl rfl (Or.inl rfl) ?_
                      refine jr_aload rfl rfl ?_
                      refine jr_getI rfl rfl ?_
                      refine jr_iald (len := 2) rfl rfl hw.1 (by omega) ?_
                      refine jr_if_le rfl (fun m5MDhasMonths => ?_) (fun m5MDhasMonths => ?_)
                      · refine jr_ic rfl ?_
                        refine jr_zret rfl rfl rfl (Nat.zero_le _) (Nat.zero_le _) ?_
                        refine jr_if_eq rfl (fun _ => ?_) (fun z => absurd (by decide) z)
                        refine jr_ic rfl ?_
                        refine jr_iret rfl rfl (Nat.zero_le _) (Nat.zero_le _) ?_
                        first
                          | exact ⟨rfl, hRel0⟩
                          | (exfalso; omega)
                          | (exfalso; simp (disch := omega) only [Int32.lt_iff_toInt_lt, Int32.le_iff_toInt_le, ← Int32.toInt_inj, Int32.reduceToInt, nI_toInt] at c3 c1RephasPerson c5RephasPerson c1JVisLength c4JVisLength m2MDisIn m5MDisIn m2MDisIn_2 m5MDisIn_2 m5MDhasMonths; done)
                          | (exfalso; simp (disch := omega) only [Int32.lt_iff_toInt_lt, Int32.le_iff_toInt_le, ← Int32.toInt_inj, Int32.reduceToInt, nI_toInt] at c3 c1RephasPerson c5RephasPerson c1JVisLength c4JVisLength m2MDisIn m5MDisIn m2MDisIn_2 m5MDisIn_2 m5MDhasMonths; omega)
                      · refine jr_ic rfl ?_
                        refine jr_goto rfl ?_
                        refine jr_zret rfl rfl rfl (Nat.zero_le _) (Nat.zero_le _) ?_
                        refine jr_if_eq rfl (fun z => absurd z (by decide)) (fun _ => ?_)
                        refine jr_aload rfl rfl ?_
                        refine jr_iload rfl rfl ?_
                        refine jr_iload rfl rfl ?_
                        refine jr_cv2 (mc' := 0) (ms' := 0) rfl jm_MD_worthOf_n jm_MD_worthOf_f rfl rfl rfl rfl rfl rfl rfl (Nat.zero_le _) (Nat.zero_le _) ?_
                        first
                          | (exfalso; omega)
                          | (exfalso; simp (disch := omega) only [Int32.lt_iff_toInt_lt, Int32.le_iff_toInt_le, ← Int32.toInt_inj, Int32.reduceToInt, nI_toInt] at c3 c1RephasPerson c5RephasPerson c1JVisLength c4JVisLength m2MDisIn m5MDisIn m2MDisIn_2 m5MDisIn_2 m5MDhasMonths; done)
                          | (exfalso; simp (disch := omega) only [Int32.lt_iff_toInt_lt, Int32.le_iff_toInt_le, ← Int32.toInt_inj, Int32.reduceToInt, nI_toInt] at c3 c1RephasPerson c5RephasPerson c1JVisLength c4JVisLength m2MDisIn m5MDisIn m2MDisIn_2 m5MDisIn_2 m5MDhasMonths; omega)
            · refine jr_ic rfl ?_
              refine jr_goto rfl ?_
              refine jr_zret rfl rfl rfl (Nat.zero_le _) (Nat.zero_le _) ?_
              refine jr_if_ne rfl (fun _ => ?_) (fun z => absurd z (by decide))
              refine jr_aload rfl rfl ?_
              refine jr_getR rfl rfl rfl rfl (Or.inl rfl) ?_
              refine jr_aload rfl rfl ?_
              refine jr_getR rfl rfl rfl rfl (Or.inl rfl) ?_
              refine jr_cv1 (mc' := 0) (ms' := 0) rfl jm_Poll_open_n jm_Poll_open_f rfl rfl rfl rfl rfl rfl rfl (Nat.zero_le _) (Nat.zero_le _) ?_
              first
                | (exfalso; omega)
                | (exfalso; simp (disch := omega) only [Int32.lt_iff_toInt_lt, Int32.le_iff_toInt_le, ← Int32.toInt_inj, Int32.reduceToInt, nI_toInt] at c3 c1RephasPerson c5RephasPerson c1JVisLength c4JVisLength; done)
                | (exfalso; simp (disch := omega) only [Int32.lt_iff_toInt_lt, Int32.le_iff_toInt_le, ← Int32.toInt_inj, Int32.reduceToInt, nI_toInt] at c3 c1RephasPerson c5RephasPerson c1JVisLength c4JVisLength; omega)
  · obtain ⟨hmo', hx⟩ := not_or.mp hmo
    clear hmo
    have hmo := hmo'
    rcases nI_dec x (jz_np hm b) (by omega) with ⟨p, rfl, hp, hp2⟩ | hp
    rotate_left
    · exact absurd hp hx
    have hn1 : 0 < jz_nm hm b := by
      rcases Nat.eq_zero_or_pos (jz_nm hm b) with e | e
      · rw [e] at hnm; exact absurd hnm.1 hmo
      · exact e
    show jx_W (jm_JV_worth, d + 40, 0, 0, false, 0, _) _ 0 0 0 [some (jv_r 10 0), some (jv_i (nI p)), some (jv_i (nI i))] [] _
    refine jr_aload rfl rfl ?_
    refine jr_getM rfl rfl rfl rfl hto ?_
    refine jr_getI rfl rfl ?_
    refine jr_if_eq rfl (fun c3 => ?_) (fun c3 => ?_)
    · refine jr_ic rfl ?_
      refine jr_iret rfl rfl (Nat.zero_le _) (Nat.zero_le _) ?_
      show jx_W (jm_MD_worth, d + 40, 0, 0, false, 1, _) _ 0 0 0 [some _, some _, some _] [] _
      refine jr_aload rfl rfl ?_
      refine jr_iload rfl rfl ?_
      refine jr_cv1 (mc' := 0) (ms' := 0) rfl jm_MD_isPerson_n jm_MD_isPerson_f rfl rfl rfl rfl rfl rfl rfl (Nat.zero_le _) (Nat.zero_le _) ?_
      show jx_W (jm_MD_isPerson, _, _, _, _, _, _) _ 0 0 0 [some _, some _] [] _
      refine jr_iload rfl rfl ?_
      refine jr_ic rfl ?_
      refine jr_aload rfl rfl ?_
      refine jr_cv0 (mc' := 0) (ms' := 0) rfl jm_MD_personMany_n jm_MD_personMany_f rfl rfl rfl rfl rfl rfl rfl (Nat.zero_le _) (Nat.zero_le _) ?_
      show jx_W (jm_MD_personMany, _, _, _, _, _, _) _ 0 0 0 [some _] [] _
      refine jr_aload rfl rfl ?_
      refine jr_getR rfl rfl rfl rfl (Or.inl rfl) ?_
      refine jr_aload rfl rfl ?_
      refine jr_getI rfl rfl ?_
      refine jr_iald (len := 2) rfl rfl hw.1 (by omega) ?_
      refine jr_iret rfl rfl (Nat.zero_le _) (Nat.zero_le _) ?_
      refine jr_ic rfl ?_
      refine jr_isub rfl ?_
      refine jr_cs3 (mc' := 0) (ms' := 0) rfl jm_MD_isIn_n jm_MD_isIn_f rfl rfl rfl rfl rfl (Nat.zero_le _) (Nat.zero_le _) ?_
      show jx_W (jm_MD_isIn, _, _, _, _, _, _) _ 0 0 0 [some _, some _, some _] [] _
      refine jr_iload rfl rfl ?_
      refine jr_iload rfl rfl ?_
      refine jr_icmp_lt rfl (fun m2MDisIn => ?_) (fun m2MDisIn => ?_)
      · refine jr_ic rfl ?_
        refine jr_zret rfl rfl rfl (Nat.zero_le _) (Nat.zero_le _) ?_
        refine jr_zret rfl rfl rfl (Nat.zero_le _) (Nat.zero_le _) ?_
        refine jr_if_eq rfl (fun _ => ?_) (fun z => absurd (by decide) z)
        refine jr_ic rfl ?_
        refine jr_iret rfl rfl (Nat.zero_le _) (Nat.zero_le _) ?_
        first
          | exact ⟨rfl, (jz_Rel_p hRel0 hS3)⟩
          | exact ⟨rfl, hRel0⟩
          | (exfalso; omega)
          | (exfalso; simp (disch := omega) only [Int32.lt_iff_toInt_lt, Int32.le_iff_toInt_le, ← Int32.toInt_inj, Int32.reduceToInt, nI_toInt] at c3 m2MDisIn; done)
          | (exfalso; simp (disch := omega) only [Int32.lt_iff_toInt_lt, Int32.le_iff_toInt_le, ← Int32.toInt_inj, Int32.reduceToInt, nI_toInt] at c3 m2MDisIn; omega)
      · refine jr_iload rfl rfl ?_
        refine jr_iload rfl rfl ?_
        refine jr_icmp_gt rfl (fun m5MDisIn => ?_) (fun m5MDisIn => ?_)
        · refine jr_ic rfl ?_
          refine jr_zret rfl rfl rfl (Nat.zero_le _) (Nat.zero_le _) ?_
          refine jr_zret rfl rfl rfl (Nat.zero_le _) (Nat.zero_le _) ?_
          refine jr_if_eq rfl (fun _ => ?_) (fun z => absurd (by decide) z)
          refine jr_ic rfl ?_
          refine jr_iret rfl rfl (Nat.zero_le _) (Nat.zero_le _) ?_
          first
            | exact ⟨rfl, (jz_Rel_p hRel0 hS3)⟩
            | exact ⟨rfl, hRel0⟩
            | (exfalso; omega)
            | (exfalso; simp (disch := omega) only [Int32.lt_iff_toInt_lt, Int32.le_iff_toInt_le, ← Int32.toInt_inj, Int32.reduceToInt, nI_toInt] at c3 m2MDisIn m5MDisIn; done)
            | (exfalso; simp (disch := omega) only [Int32.lt_iff_toInt_lt, Int32.le_iff_toInt_le, ← Int32.toInt_inj, Int32.reduceToInt, nI_toInt] at c3 m2MDisIn m5MDisIn; omega)
        · refine jr_ic rfl ?_
          refine jr_goto rfl ?_
          refine jr_zret rfl rfl rfl (Nat.zero_le _) (Nat.zero_le _) ?_
          refine jr_zret rfl rfl rfl (Nat.zero_le _) (Nat.zero_le _) ?_
          refine jr_if_eq rfl (fun z => absurd z (by decide)) (fun _ => ?_)
          refine jr_iload rfl rfl ?_
          refine jr_ic rfl ?_
          refine jr_ic rfl ?_
          refine jr_cs3 (mc' := 0) (ms' := 0) rfl jm_MD_isIn_n jm_MD_isIn_f rfl rfl rfl rfl rfl (Nat.zero_le _) (Nat.zero_le _) ?_
          show jx_W (jm_MD_isIn, _, _, _, _, _, _) _ 0 0 0 [some _, some _, some _] [] _
          refine jr_iload rfl rfl ?_
          refine jr_iload rfl rfl ?_
          refine jr_icmp_lt rfl (fun m2MDisIn_2 => ?_) (fun m2MDisIn_2 => ?_)
          · refine jr_ic rfl ?_
            refine jr_zret rfl rfl rfl (Nat.zero_le _) (Nat.zero_le _) ?_
            refine jr_if_eq rfl (fun _ => ?_) (fun z => absurd (by decide) z)
            refine jr_ic rfl ?_
            refine jr_iret rfl rfl (Nat.zero_le _) (Nat.zero_le _) ?_
            first
              | exact ⟨rfl, (jz_Rel_p hRel0 hS3)⟩
              | exact ⟨rfl, hRel0⟩
              | (exfalso; omega)
              | (exfalso; simp (disch := omega) only [Int32.lt_iff_toInt_lt, Int32.le_iff_toInt_le, ← Int32.toInt_inj, Int32.reduceToInt, nI_toInt] at c3 m2MDisIn m5MDisIn m2MDisIn_2; done)
              | (exfalso; simp (disch := omega) only [Int32.lt_iff_toInt_lt, Int32.le_iff_toInt_le, ← Int32.toInt_inj, Int32.reduceToInt, nI_toInt] at c3 m2MDisIn m5MDisIn m2MDisIn_2; omega)
          · refine jr_iload rfl rfl ?_
            refine jr_iload rfl rfl ?_
            refine jr_icmp_gt rfl (fun m5MDisIn_2 => ?_) (fun m5MDisIn_2 => ?_)
            · refine jr_ic rfl ?_
              refine jr_zret rfl rfl rfl (Nat.zero_le _) (Nat.zero_le _) ?_
              refine jr_if_eq rfl (fun _ => ?_) (fun z => absurd (by decide) z)
              refine jr_ic rfl ?_
              refine jr_iret rfl rfl (Nat.zero_le _) (Nat.zero_le _) ?_
              first
                | exact ⟨rfl, (jz_Rel_p hRel0 hS3)⟩
                | exact ⟨rfl, hRel0⟩
                | (exfalso; omega)
                | (exfalso; simp (disch := omega) only [Int32.lt_iff_toInt_lt, Int32.le_iff_toInt_le, ← Int32.toInt_inj, Int32.reduceToInt, nI_toInt] at c3 m2MDisIn m5MDisIn m2MDisIn_2 m5MDisIn_2; done)
                | (exfalso; simp (disch := omega) only [Int32.lt_iff_toInt_lt, Int32.le_iff_toInt_le, ← Int32.toInt_inj, Int32.reduceToInt, nI_toInt] at c3 m2MDisIn m5MDisIn m2MDisIn_2 m5MDisIn_2; omega)
            · refine jr_ic rfl ?_
              refine jr_goto rfl ?_
              refine jr_zret rfl rfl rfl (Nat.zero_le _) (Nat.zero_le _) ?_
              refine jr_if_eq rfl (fun z => absurd z (by decide)) (fun _ => ?_)
              refine jr_aload rfl rfl ?_
              refine jr_cv0 (mc' := 0) (ms' := 0) rfl jm_MD_hasMonths_n jm_MD_hasMonths_f rfl rfl rfl rfl rfl rfl rfl (Nat.zero_le _) (Nat.zero_le _) ?_
              show jx_W (jm_MD_hasMonths, _, _, _, _, _, _) _ 0 0 0 [some _] [] _
              refine jr_aload rfl rfl ?_
              refine jr_getR rfl rfl rfl rfl (Or.inl rfl) ?_
              refine jr_aload rfl rfl ?_
              refine jr_getI rfl rfl ?_
              refine jr_iald (len := 2) rfl rfl hw.1 (by omega) ?_
              refine jr_if_le rfl (fun m5MDhasMonths => ?_) (fun m5MDhasMonths => ?_)
              · refine jr_ic rfl ?_
                refine jr_zret rfl rfl rfl (Nat.zero_le _) (Nat.zero_le _) ?_
                refine jr_if_eq rfl (fun _ => ?_) (fun z => absurd (by decide) z)
                refine jr_ic rfl ?_
                refine jr_iret rfl rfl (Nat.zero_le _) (Nat.zero_le _) ?_
                first
                  | exact ⟨rfl, (jz_Rel_p hRel0 hS3)⟩
                  | exact ⟨rfl, hRel0⟩
                  | (exfalso; omega)
                  | (exfalso; simp (disch := omega) only [Int32.lt_iff_toInt_lt, Int32.le_iff_toInt_le, ← Int32.toInt_inj, Int32.reduceToInt, nI_toInt] at c3 m2MDisIn m5MDisIn m2MDisIn_2 m5MDisIn_2 m5MDhasMonths; done)
                  | (exfalso; simp (disch := omega) only [Int32.lt_iff_toInt_lt, Int32.le_iff_toInt_le, ← Int32.toInt_inj, Int32.reduceToInt, nI_toInt] at c3 m2MDisIn m5MDisIn m2MDisIn_2 m5MDisIn_2 m5MDhasMonths; omega)
              · refine jr_ic rfl ?_
                refine jr_goto rfl ?_
                refine jr_zret rfl rfl rfl (Nat.zero_le _) (Nat.zero_le _) ?_
                refine jr_if_eq rfl (fun z => absurd z (by decide)) (fun _ => ?_)
                refine jr_aload rfl rfl ?_
                refine jr_iload rfl rfl ?_
                refine jr_iload rfl rfl ?_
                refine jr_cv2 (mc' := 0) (ms' := 0) rfl jm_MD_worthOf_n jm_MD_worthOf_f rfl rfl rfl rfl rfl rfl rfl (Nat.zero_le _) (Nat.zero_le _) ?_
                refine eB_worthOf hw hmo (by omega) (fun S3 hS3 => ?_)
                refine jr_goto rfl ?_
                refine jr_iret rfl rfl (Nat.zero_le _) (Nat.zero_le _) ?_
                first
                  | exact ⟨rfl, (jz_Rel_p hRel0 hS3)⟩
                  | exact ⟨rfl, hRel0⟩
                  | (exfalso; omega)
                  | (exfalso; simp (disch := omega) only [Int32.lt_iff_toInt_lt, Int32.le_iff_toInt_le, ← Int32.toInt_inj, Int32.reduceToInt, nI_toInt] at c3 m2MDisIn m5MDisIn m2MDisIn_2 m5MDisIn_2 m5MDhasMonths; done)
                  | (exfalso; simp (disch := omega) only [Int32.lt_iff_toInt_lt, Int32.le_iff_toInt_le, ← Int32.toInt_inj, Int32.reduceToInt, nI_toInt] at c3 m2MDisIn m5MDisIn m2MDisIn_2 m5MDisIn_2 m5MDhasMonths; omega)
    · refine jr_aload rfl rfl ?_
      refine jr_getM rfl rfl rfl rfl hto ?_
      refine jr_iload rfl rfl ?_
      refine jr_cv1 (mc' := 0) (ms' := 0) rfl jm_Rep_hasPerson_n jm_Rep_hasPerson_f rfl rfl rfl rfl rfl rfl rfl (Nat.zero_le _) (Nat.zero_le _) ?_
      show jx_W (jm_Rep_hasPerson, _, _, _, _, _, _) _ 0 0 0 [some _, some _] [] _
      refine jr_iload rfl rfl ?_
      refine jr_if_lt rfl (fun c1RephasPerson => ?_) (fun c1RephasPerson => ?_)
      · refine jr_ic rfl ?_
        refine jr_zret rfl rfl rfl (Nat.zero_le _) (Nat.zero_le _) ?_
        refine jr_if_eq rfl (fun _ => ?_) (fun z => absurd (by decide) z)
        refine jr_ic rfl ?_
        refine jr_iret rfl rfl (Nat.zero_le _) (Nat.zero_le _) ?_
        show jx_W (jm_MD_worth, d + 40, 0, 0, false, 1, _) _ 0 0 0 [some _, some _, some _] [] _
        refine jr_aload rfl rfl ?_
        refine jr_iload rfl rfl ?_
        refine jr_cv1 (mc' := 0) (ms' := 0) rfl jm_MD_isPerson_n jm_MD_isPerson_f rfl rfl rfl rfl rfl rfl rfl (Nat.zero_le _) (Nat.zero_le _) ?_
        show jx_W (jm_MD_isPerson, _, _, _, _, _, _) _ 0 0 0 [some _, some _] [] _
        refine jr_iload rfl rfl ?_
        refine jr_ic rfl ?_
        refine jr_aload rfl rfl ?_
        refine jr_cv0 (mc' := 0) (ms' := 0) rfl jm_MD_personMany_n jm_MD_personMany_f rfl rfl rfl rfl rfl rfl rfl (Nat.zero_le _) (Nat.zero_le _) ?_
        show jx_W (jm_MD_personMany, _, _, _, _, _, _) _ 0 0 0 [some _] [] _
        refine jr_aload rfl rfl ?_
        refine jr_getR rfl rfl rfl rfl (Or.inl rfl) ?_
        refine jr_aload rfl rfl ?_
        refine jr_getI rfl rfl ?_
        refine jr_iald (len := 2) rfl rfl hw.1 (by omega) ?_
        refine jr_iret rfl rfl (Nat.zero_le _) (Nat.zero_le _) ?_
        refine jr_ic rfl ?_
        refine jr_isub rfl ?_
        refine jr_cs3 (mc' := 0) (ms' := 0) rfl jm_MD_isIn_n jm_MD_isIn_f rfl rfl rfl rfl rfl (Nat.zero_le _) (Nat.zero_le _) ?_
        show jx_W (jm_MD_isIn, _, _, _, _, _, _) _ 0 0 0 [some _, some _, some _] [] _
        refine jr_iload rfl rfl ?_
        refine jr_iload rfl rfl ?_
        refine jr_icmp_lt rfl (fun m2MDisIn => ?_) (fun m2MDisIn => ?_)
        · refine jr_ic rfl ?_
          refine jr_zret rfl rfl rfl (Nat.zero_le _) (Nat.zero_le _) ?_
          refine jr_zret rfl rfl rfl (Nat.zero_le _) (Nat.zero_le _) ?_
          refine jr_if_eq rfl (fun _ => ?_) (fun z => absurd (by decide) z)
          refine jr_ic rfl ?_
          refine jr_iret rfl rfl (Nat.zero_le _) (Nat.zero_le _) ?_
          first
            | exact ⟨rfl, (jz_Rel_p hRel0 hS3)⟩
            | exact ⟨rfl, hRel0⟩
            | (exfalso; omega)
            | (exfalso; simp (disch := omega) only [Int32.lt_iff_toInt_lt, Int32.le_iff_toInt_le, ← Int32.toInt_inj, Int32.reduceToInt, nI_toInt] at c3 c1RephasPerson m2MDisIn; done)
            | (exfalso; simp (disch := omega) only [Int32.lt_iff_toInt_lt, Int32.le_iff_toInt_le, ← Int32.toInt_inj, Int32.reduceToInt, nI_toInt] at c3 c1RephasPerson m2MDisIn; omega)
        · refine jr_iload rfl rfl ?_
          refine jr_iload rfl rfl ?_
          refine jr_icmp_gt rfl (fun m5MDisIn => ?_) (fun m5MDisIn => ?_)
          · refine jr_ic rfl ?_
            refine jr_zret rfl rfl rfl (Nat.zero_le _) (Nat.zero_le _) ?_
            refine jr_zret rfl rfl rfl (Nat.zero_le _) (Nat.zero_le _) ?_
            refine jr_if_eq rfl (fun _ => ?_) (fun z => absurd (by decide) z)
            refine jr_ic rfl ?_
            refine jr_iret rfl rfl (Nat.zero_le _) (Nat.zero_le _) ?_
            first
              | exact ⟨rfl, (jz_Rel_p hRel0 hS3)⟩
              | exact ⟨rfl, hRel0⟩
              | (exfalso; omega)
              | (exfalso; simp (disch := omega) only [Int32.lt_iff_toInt_lt, Int32.le_iff_toInt_le, ← Int32.toInt_inj, Int32.reduceToInt, nI_toInt] at c3 c1RephasPerson m2MDisIn m5MDisIn; done)
              | (exfalso; simp (disch := omega) only [Int32.lt_iff_toInt_lt, Int32.le_iff_toInt_le, ← Int32.toInt_inj, Int32.reduceToInt, nI_toInt] at c3 c1RephasPerson m2MDisIn m5MDisIn; omega)
          · refine jr_ic rfl ?_
            refine jr_goto rfl ?_
            refine jr_zret rfl rfl rfl (Nat.zero_le _) (Nat.zero_le _) ?_
            refine jr_zret rfl rfl rfl (Nat.zero_le _) (Nat.zero_le _) ?_
            refine jr_if_eq rfl (fun z => absurd z (by decide)) (fun _ => ?_)
            refine jr_iload rfl rfl ?_
            refine jr_ic rfl ?_
            refine jr_ic rfl ?_
            refine jr_cs3 (mc' := 0) (ms' := 0) rfl jm_MD_isIn_n jm_MD_isIn_f rfl rfl rfl rfl rfl (Nat.zero_le _) (Nat.zero_le _) ?_
            show jx_W (jm_MD_isIn, _, _, _, _, _, _) _ 0 0 0 [some _, some _, some _] [] _
            refine jr_iload rfl rfl ?_
            refine jr_iload rfl rfl ?_
            refine jr_icmp_lt rfl (fun m2MDisIn_2 => ?_) (fun m2MDisIn_2 => ?_)
            · refine jr_ic rfl ?_
              refine jr_zret rfl rfl rfl (Nat.zero_le _) (Nat.zero_le _) ?_
              refine jr_if_eq rfl (fun _ => ?_) (fun z => absurd (by decide) z)
              refine jr_ic rfl ?_
              refine jr_iret rfl rfl (Nat.zero_le _) (Nat.zero_le _) ?_
              first
                | exact ⟨rfl, (jz_Rel_p hRel0 hS3)⟩
                | exact ⟨rfl, hRel0⟩
                | (exfalso; omega)
                | (exfalso; simp (disch := omega) only [Int32.lt_iff_toInt_lt, Int32.le_iff_toInt_le, ← Int32.toInt_inj, Int32.reduceToInt, nI_toInt] at c3 c1RephasPerson m2MDisIn m5MDisIn m2MDisIn_2; done)
                | (exfalso; simp (disch := omega) only [Int32.lt_iff_toInt_lt, Int32.le_iff_toInt_le, ← Int32.toInt_inj, Int32.reduceToInt, nI_toInt] at c3 c1RephasPerson m2MDisIn m5MDisIn m2MDisIn_2; omega)
            · refine jr_iload rfl rfl ?_
              refine jr_iload rfl rfl ?_
              refine jr_icmp_gt rfl (fun m5MDisIn_2 => ?_) (fun m5MDisIn_2 => ?_)
              · refine jr_ic rfl ?_
                refine jr_zret rfl rfl rfl (Nat.zero_le _) (Nat.zero_le _) ?_
                refine jr_if_eq rfl (fun _ => ?_) (fun z => absurd (by decide) z)
                refine jr_ic rfl ?_
                refine jr_iret rfl rfl (Nat.zero_le _) (Nat.zero_le _) ?_
                first
                  | exact ⟨rfl, (jz_Rel_p hRel0 hS3)⟩
                  | exact ⟨rfl, hRel0⟩
                  | (exfalso; omega)
                  | (exfalso; simp (disch := omega) only [Int32.lt_iff_toInt_lt, Int32.le_iff_toInt_le, ← Int32.toInt_inj, Int32.reduceToInt, nI_toInt] at c3 c1RephasPerson m2MDisIn m5MDisIn m2MDisIn_2 m5MDisIn_2; done)
                  | (exfalso; simp (disch := omega) only [Int32.lt_iff_toInt_lt, Int32.le_iff_toInt_le, ← Int32.toInt_inj, Int32.reduceToInt, nI_toInt] at c3 c1RephasPerson m2MDisIn m5MDisIn m2MDisIn_2 m5MDisIn_2; omega)
              · refine jr_ic rfl ?_
                refine jr_goto rfl ?_
                refine jr_zret rfl rfl rfl (Nat.zero_le _) (Nat.zero_le _) ?_
                refine jr_if_eq rfl (fun z => absurd z (by decide)) (fun _ => ?_)
                refine jr_aload rfl rfl ?_
                refine jr_cv0 (mc' := 0) (ms' := 0) rfl jm_MD_hasMonths_n jm_MD_hasMonths_f rfl rfl rfl rfl rfl rfl rfl (Nat.zero_le _) (Nat.zero_le _) ?_
                show jx_W (jm_MD_hasMonths, _, _, _, _, _, _) _ 0 0 0 [some _] [] _
                refine jr_aload rfl rfl ?_
                refine jr_getR rfl rfl rfl rfl (Or.inl rfl) ?_
                refine jr_aload rfl rfl ?_
                refine jr_getI rfl rfl ?_
                refine jr_iald (len := 2) rfl rfl hw.1 (by omega) ?_
                refine jr_if_le rfl (fun m5MDhasMonths => ?_) (fun m5MDhasMonths => ?_)
                · refine jr_ic rfl ?_
                  refine jr_zret rfl rfl rfl (Nat.zero_le _) (Nat.zero_le _) ?_
                  refine jr_if_eq rfl (fun _ => ?_) (fun z => absurd (by decide) z)
                  refine jr_ic rfl ?_
                  refine jr_iret rfl rfl (Nat.zero_le _) (Nat.zero_le _) ?_
                  first
                    | exact ⟨rfl, (jz_Rel_p hRel0 hS3)⟩
                    | exact ⟨rfl, hRel0⟩
                    | (exfalso; omega)
                    | (exfalso; simp (disch := omega) only [Int32.lt_iff_toInt_lt, Int32.le_iff_toInt_le, ← Int32.toInt_inj, Int32.reduceToInt, nI_toInt] at c3 c1RephasPerson m2MDisIn m5MDisIn m2MDisIn_2 m5MDisIn_2 m5MDhasMonths; done)
                    | (exfalso; simp (disch := omega) only [Int32.lt_iff_toInt_lt, Int32.le_iff_toInt_le, ← Int32.toInt_inj, Int32.reduceToInt, nI_toInt] at c3 c1RephasPerson m2MDisIn m5MDisIn m2MDisIn_2 m5MDisIn_2 m5MDhasMonths; omega)
                · refine jr_ic rfl ?_
                  refine jr_goto rfl ?_
                  refine jr_zret rfl rfl rfl (Nat.zero_le _) (Nat.zero_le _) ?_
                  refine jr_if_eq rfl (fun z => absurd z (by decide)) (fun _ => ?_)
                  refine jr_aload rfl rfl ?_
                  refine jr_iload rfl rfl ?_
                  refine jr_iload rfl rfl ?_
                  refine jr_cv2 (mc' := 0) (ms' := 0) rfl jm_MD_worthOf_n jm_MD_worthOf_f rfl rfl rfl rfl rfl rfl rfl (Nat.zero_le _) (Nat.zero_le _) ?_
                  refine eB_worthOf hw hmo (by omega) (fun S3 hS3 => ?_)
                  refine jr_goto rfl ?_
                  refine jr_iret rfl rfl (Nat.zero_le _) (Nat.zero_le _) ?_
                  first
                    | exact ⟨rfl, (jz_Rel_p hRel0 hS3)⟩
                    | exact ⟨rfl, hRel0⟩
                    | (exfalso; omega)
                    | (exfalso; simp (disch := omega) only [Int32.lt_iff_toInt_lt, Int32.le_iff_toInt_le, ← Int32.toInt_inj, Int32.reduceToInt, nI_toInt] at c3 c1RephasPerson m2MDisIn m5MDisIn m2MDisIn_2 m5MDisIn_2 m5MDhasMonths; done)
                    | (exfalso; simp (disch := omega) only [Int32.lt_iff_toInt_lt, Int32.le_iff_toInt_le, ← Int32.toInt_inj, Int32.reduceToInt, nI_toInt] at c3 c1RephasPerson m2MDisIn m5MDisIn m2MDisIn_2 m5MDisIn_2 m5MDhasMonths; omega)
      · refine jr_iload rfl rfl ?_
        refine jr_aload rfl rfl ?_
        refine jr_getI rfl rfl ?_
        refine jr_icmp_ge rfl (fun c5RephasPerson => ?_) (fun c5RephasPerson => ?_)
        · refine jr_ic rfl ?_
          refine jr_zret rfl rfl rfl (Nat.zero_le _) (Nat.zero_le _) ?_
          refine jr_if_eq rfl (fun _ => ?_) (fun z => absurd (by decide) z)
          refine jr_ic rfl ?_
          refine jr_iret rfl rfl (Nat.zero_le _) (Nat.zero_le _) ?_
          show jx_W (jm_MD_worth, d + 40, 0, 0, false, 1, _) _ 0 0 0 [some _, some _, some _] [] _
          refine jr_aload rfl rfl ?_
          refine jr_iload rfl rfl ?_
          refine jr_cv1 (mc' := 0) (ms' := 0) rfl jm_MD_isPerson_n jm_MD_isPerson_f rfl rfl rfl rfl rfl rfl rfl (Nat.zero_le _) (Nat.zero_le _) ?_
          show jx_W (jm_MD_isPerson, _, _, _, _, _, _) _ 0 0 0 [some _, some _] [] _
          refine jr_iload rfl rfl ?_
          refine jr_ic rfl ?_
          refine jr_aload rfl rfl ?_
          refine jr_cv0 (mc' := 0) (ms' := 0) rfl jm_MD_personMany_n jm_MD_personMany_f rfl rfl rfl rfl rfl rfl rfl (Nat.zero_le _) (Nat.zero_le _) ?_
          show jx_W (jm_MD_personMany, _, _, _, _, _, _) _ 0 0 0 [some _] [] _
          refine jr_aload rfl rfl ?_
          refine jr_getR rfl rfl rfl rfl (Or.inl rfl) ?_
          refine jr_aload rfl rfl ?_
          refine jr_getI rfl rfl ?_
          refine jr_iald (len := 2) rfl rfl hw.1 (by omega) ?_
          refine jr_iret rfl rfl (Nat.zero_le _) (Nat.zero_le _) ?_
          refine jr_ic rfl ?_
          refine jr_isub rfl ?_
          refine jr_cs3 (mc' := 0) (ms' := 0) rfl jm_MD_isIn_n jm_MD_isIn_f rfl rfl rfl rfl rfl (Nat.zero_le _) (Nat.zero_le _) ?_
          show jx_W (jm_MD_isIn, _, _, _, _, _, _) _ 0 0 0 [some _, some _, some _] [] _
          refine jr_iload rfl rfl ?_
          refine jr_iload rfl rfl ?_
          refine jr_icmp_lt rfl (fun m2MDisIn => ?_) (fun m2MDisIn => ?_)
          · refine jr_ic rfl ?_
            refine jr_zret rfl rfl rfl (Nat.zero_le _) (Nat.zero_le _) ?_
            refine jr_zret rfl rfl rfl (Nat.zero_le _) (Nat.zero_le _) ?_
            refine jr_if_eq rfl (fun _ => ?_) (fun z => absurd (by decide) z)
            refine jr_ic rfl ?_
            refine jr_iret rfl rfl (Nat.zero_le _) (Nat.zero_le _) ?_
            first
              | exact ⟨rfl, (jz_Rel_p hRel0 hS3)⟩
              | exact ⟨rfl, hRel0⟩
              | (exfalso; omega)
              | (exfalso; simp (disch := omega) only [Int32.lt_iff_toInt_lt, Int32.le_iff_toInt_le, ← Int32.toInt_inj, Int32.reduceToInt, nI_toInt] at c3 c1RephasPerson c5RephasPerson m2MDisIn; done)
              | (exfalso; simp (disch := omega) only [Int32.lt_iff_toInt_lt, Int32.le_iff_toInt_le, ← Int32.toInt_inj, Int32.reduceToInt, nI_toInt] at c3 c1RephasPerson c5RephasPerson m2MDisIn; omega)
          · refine jr_iload rfl rfl ?_
            refine jr_iload rfl rfl ?_
            refine jr_icmp_gt rfl (fun m5MDisIn => ?_) (fun m5MDisIn => ?_)
            · refine jr_ic rfl ?_
              refine jr_zret rfl rfl rfl (Nat.zero_le _) (Nat.zero_le _) ?_
              refine jr_zret rfl rfl rfl (Nat.zero_le _) (Nat.zero_le _) ?_
              refine jr_if_eq rfl (fun _ => ?_) (fun z => absurd (by decide) z)
              refine jr_ic rfl ?_
              refine jr_iret rfl rfl (Nat.zero_le _) (Nat.zero_le _) ?_
              first
                | exact ⟨rfl, (jz_Rel_p hRel0 hS3)⟩
                | exact ⟨rfl, hRel0⟩
                | (exfalso; omega)
                | (exfalso; simp (disch := omega) only [Int32.lt_iff_toInt_lt, Int32.le_iff_toInt_le, ← Int32.toInt_inj, Int32.reduceToInt, nI_toInt] at c3 c1RephasPerson c5RephasPerson m2MDisIn m5MDisIn; done)
                | (exfalso; simp (disch := omega) only [Int32.lt_iff_toInt_lt, Int32.le_iff_toInt_le, ← Int32.toInt_inj, Int32.reduceToInt, nI_toInt] at c3 c1RephasPerson c5RephasPerson m2MDisIn m5MDisIn; omega)
            · refine jr_ic rfl ?_
              refine jr_goto rfl ?_
              refine jr_zret rfl rfl rfl (Nat.zero_le _) (Nat.zero_le _) ?_
              refine jr_zret rfl rfl rfl (Nat.zero_le _) (Nat.zero_le _) ?_
              refine jr_if_eq rfl (fun z => absurd z (by decide)) (fun _ => ?_)
              refine jr_iload rfl rfl ?_
              refine jr_ic rfl ?_
              refine jr_ic rfl ?_
              refine jr_cs3 (mc' := 0) (ms' := 0) rfl jm_MD_isIn_n jm_MD_isIn_f rfl rfl rfl rfl rfl (Nat.zero_le _) (Nat.zero_le _) ?_
              show jx_W (jm_MD_isIn, _, _, _, _, _, _) _ 0 0 0 [some _, some _, some _] [] _
              refine jr_iload rfl rfl ?_
              refine jr_iload rfl rfl ?_
              refine jr_icmp_lt rfl (fun m2MDisIn_2 => ?_) (fun m2MDisIn_2 => ?_)
              · refine jr_ic rfl ?_
                refine jr_zret rfl rfl rfl (Nat.zero_le _) (Nat.zero_le _) ?_
                refine jr_if_eq rfl (fun _ => ?_) (fun z => absurd (by decide) z)
                refine jr_ic rfl ?_
                refine jr_iret rfl rfl (Nat.zero_le _) (Nat.zero_le _) ?_
                first
                  | exact ⟨rfl, (jz_Rel_p hRel0 hS3)⟩
                  | exact ⟨rfl, hRel0⟩
                  | (exfalso; omega)
                  | (exfalso; simp (disch := omega) only [Int32.lt_iff_toInt_lt, Int32.le_iff_toInt_le, ← Int32.toInt_inj, Int32.reduceToInt, nI_toInt] at c3 c1RephasPerson c5RephasPerson m2MDisIn m5MDisIn m2MDisIn_2; done)
                  | (exfalso; simp (disch := omega) only [Int32.lt_iff_toInt_lt, Int32.le_iff_toInt_le, ← Int32.toInt_inj, Int32.reduceToInt, nI_toInt] at c3 c1RephasPerson c5RephasPerson m2MDisIn m5MDisIn m2MDisIn_2; omega)
              · refine jr_iload rfl rfl ?_
                refine jr_iload rfl rfl ?_
                refine jr_icmp_gt rfl (fun m5MDisIn_2 => ?_) (fun m5MDisIn_2 => ?_)
                · refine jr_ic rfl ?_
                  refine jr_zret rfl rfl rfl (Nat.zero_le _) (Nat.zero_le _) ?_
                  refine jr_if_eq rfl (fun _ => ?_) (fun z => absurd (by decide) z)
                  refine jr_ic rfl ?_
                  refine jr_iret rfl rfl (Nat.zero_le _) (Nat.zero_le _) ?_
                  first
                    | exact ⟨rfl, (jz_Rel_p hRel0 hS3)⟩
                    | exact ⟨rfl, hRel0⟩
                    | (exfalso; omega)
                    | (exfalso; simp (disch := omega) only [Int32.lt_iff_toInt_lt, Int32.le_iff_toInt_le, ← Int32.toInt_inj, Int32.reduceToInt, nI_toInt] at c3 c1RephasPerson c5RephasPerson m2MDisIn m5MDisIn m2MDisIn_2 m5MDisIn_2; done)
                    | (exfalso; simp (disch := omega) only [Int32.lt_iff_toInt_lt, Int32.le_iff_toInt_le, ← Int32.toInt_inj, Int32.reduceToInt, nI_toInt] at c3 c1RephasPerson c5RephasPerson m2MDisIn m5MDisIn m2MDisIn_2 m5MDisIn_2; omega)
                · refine jr_ic rfl ?_
                  refine jr_goto rfl ?_
                  refine jr_zret rfl rfl rfl (Nat.zero_le _) (Nat.zero_le _) ?_
                  refine jr_if_eq rfl (fun z => absurd z (by decide)) (fun _ => ?_)
                  refine jr_aload rfl rfl ?_
                  refine jr_cv0 (mc' := 0) (ms' := 0) rfl jm_MD_hasMonths_n jm_MD_hasMonths_f rfl rfl rfl rfl rfl rfl rfl (Nat.zero_le _) (Nat.zero_le _) ?_
                  show jx_W (jm_MD_hasMonths, _, _, _, _, _, _) _ 0 0 0 [some _] [] _
                  refine jr_aload rfl rfl ?_
                  refine jr_getR rfl rfl rfl rfl (Or.inl rfl) ?_
                  refine jr_aload rfl rfl ?_
                  refine jr_getI rfl rfl ?_
                  refine jr_iald (len := 2) rfl rfl hw.1 (by omega) ?_
                  refine jr_if_le rfl (fun m5MDhasMonths => ?_) (fun m5MDhasMonths => ?_)
                  · refine jr_ic rfl ?_
                    refine jr_zret rfl rfl rfl (Nat.zero_le _) (Nat.zero_le _) ?_
                    refine jr_if_eq rfl (fun _ => ?_) (fun z => absurd (by decide) z)
                    refine jr_ic rfl ?_
                    refine jr_iret rfl rfl (Nat.zero_le _) (Nat.zero_le _) ?_
                    first
                      | exact ⟨rfl, (jz_Rel_p hRel0 hS3)⟩
                      | exact ⟨rfl, hRel0⟩
                      | (exfalso; omega)
                      | (exfalso; simp (disch := omega) only [Int32.lt_iff_toInt_lt, Int32.le_iff_toInt_le, ← Int32.toInt_inj, Int32.reduceToInt, nI_toInt] at c3 c1RephasPerson c5RephasPerson m2MDisIn m5MDisIn m2MDisIn_2 m5MDisIn_2 m5MDhasMonths; done)
                      | (exfalso; simp (disch := omega) only [Int32.lt_iff_toInt_lt, Int32.le_iff_toInt_le, ← Int32.toInt_inj, Int32.reduceToInt, nI_toInt] at c3 c1RephasPerson c5RephasPerson m2MDisIn m5MDisIn m2MDisIn_2 m5MDisIn_2 m5MDhasMonths; omega)
                  · refine jr_ic rfl ?_
                    refine jr_goto rfl ?_
                    refine jr_zret rfl rfl rfl (Nat.zero_le _) (Nat.zero_le _) ?_
                    refine jr_if_eq rfl (fun z => absurd z (by decide)) (fun _ => ?_)
                    refine jr_aload rfl rfl ?_
                    refine jr_iload rfl rfl ?_
                    refine jr_iload rfl rfl ?_
                    refine jr_cv2 (mc' := 0) (ms' := 0) rfl jm_MD_worthOf_n jm_MD_worthOf_f rfl rfl rfl rfl rfl rfl rfl (Nat.zero_le _) (Nat.zero_le _) ?_
                    refine eB_worthOf hw hmo (by omega) (fun S3 hS3 => ?_)
                    refine jr_goto rfl ?_
                    refine jr_iret rfl rfl (Nat.zero_le _) (Nat.zero_le _) ?_
                    first
                      | exact ⟨rfl, (jz_Rel_p hRel0 hS3)⟩
                      | exact ⟨rfl, hRel0⟩
                      | (exfalso; omega)
                      | (exfalso; simp (disch := omega) only [Int32.lt_iff_toInt_lt, Int32.le_iff_toInt_le, ← Int32.toInt_inj, Int32.reduceToInt, nI_toInt] at c3 c1RephasPerson c5RephasPerson m2MDisIn m5MDisIn m2MDisIn_2 m5MDisIn_2 m5MDhasMonths; done)
                      | (exfalso; simp (disch := omega) only [Int32.lt_iff_toInt_lt, Int32.le_iff_toInt_le, ← Int32.toInt_inj, Int32.reduceToInt, nI_toInt] at c3 c1RephasPerson c5RephasPerson m2MDisIn m5MDisIn m2MDisIn_2 m5MDisIn_2 m5MDhasMonths; omega)
        · refine jr_ic rfl ?_
          refine jr_goto rfl ?_
          refine jr_zret rfl rfl rfl (Nat.zero_le _) (Nat.zero_le _) ?_
          refine jr_if_eq rfl (fun z => absurd z (by decide)) (fun _ => ?_)
          refine jr_iload rfl rfl ?_
          refine jr_cs1 (mc' := 0) (ms' := 0) rfl jm_JV_isLength_n jm_JV_isLength_f rfl rfl rfl rfl rfl (Nat.zero_le _) (Nat.zero_le _) ?_
          show jx_W (jm_JV_isLength, _, _, _, _, _, _) _ 0 0 0 [some _] [] _
          refine jr_iload rfl rfl ?_
          refine jr_if_lt rfl (fun c1JVisLength => ?_) (fun c1JVisLength => ?_)
          · refine jr_ic rfl ?_
            refine jr_zret rfl rfl rfl (Nat.zero_le _) (Nat.zero_le _) ?_
            refine jr_if_ne rfl (fun z => absurd (by decide) z) (fun _ => ?_)
            refine jr_ic rfl ?_
            refine jr_iret rfl rfl (Nat.zero_le _) (Nat.zero_le _) ?_
            show jx_W (jm_MD_worth, d + 40, 0, 0, false, 1, _) _ 0 0 0 [some _, some _, some _] [] _
            refine jr_aload rfl rfl ?_
            refine jr_iload rfl rfl ?_
            refine jr_cv1 (mc' := 0) (ms' := 0) rfl jm_MD_isPerson_n jm_MD_isPerson_f rfl rfl rfl rfl rfl rfl rfl (Nat.zero_le _) (Nat.zero_le _) ?_
            show jx_W (jm_MD_isPerson, _, _, _, _, _, _) _ 0 0 0 [some _, some _] [] _
            refine jr_iload rfl rfl ?_
            refine jr_ic rfl ?_
            refine jr_aload rfl rfl ?_
            refine jr_cv0 (mc' := 0) (ms' := 0) rfl jm_MD_personMany_n jm_MD_personMany_f rfl rfl rfl rfl rfl rfl rfl (Nat.zero_le _) (Nat.zero_le _) ?_
            show jx_W (jm_MD_personMany, _, _, _, _, _, _) _ 0 0 0 [some _] [] _
            refine jr_aload rfl rfl ?_
            refine jr_getR rfl rfl rfl rfl (Or.inl rfl) ?_
            refine jr_aload rfl rfl ?_
            refine jr_getI rfl rfl ?_
            refine jr_iald (len := 2) rfl rfl hw.1 (by omega) ?_
            refine jr_iret rfl rfl (Nat.zero_le _) (Nat.zero_le _) ?_
            refine jr_ic rfl ?_
            refine jr_isub rfl ?_
            refine jr_cs3 (mc' := 0) (ms' := 0) rfl jm_MD_isIn_n jm_MD_isIn_f rfl rfl rfl rfl rfl (Nat.zero_le _) (Nat.zero_le _) ?_
            show jx_W (jm_MD_isIn, _, _, _, _, _, _) _ 0 0 0 [some _, some _, some _] [] _
            refine jr_iload rfl rfl ?_
            refine jr_iload rfl rfl ?_
            refine jr_icmp_lt rfl (fun m2MDisIn => ?_) (fun m2MDisIn => ?_)
            · refine jr_ic rfl ?_
              refine jr_zret rfl rfl rfl (Nat.zero_le _) (Nat.zero_le _) ?_
              refine jr_zret rfl rfl rfl (Nat.zero_le _) (Nat.zero_le _) ?_
              refine jr_if_eq rfl (fun _ => ?_) (fun z => absurd (by decide) z)
              refine jr_ic rfl ?_
              refine jr_iret rfl rfl (Nat.zero_le _) (Nat.zero_le _) ?_
              first
                | exact ⟨rfl, (jz_Rel_p hRel0 hS3)⟩
                | exact ⟨rfl, hRel0⟩
                | (exfalso; omega)
                | (exfalso; simp (disch := omega) only [Int32.lt_iff_toInt_lt, Int32.le_iff_toInt_le, ← Int32.toInt_inj, Int32.reduceToInt, nI_toInt] at c3 c1RephasPerson c5RephasPerson c1JVisLength m2MDisIn; done)
                | (exfalso; simp (disch := omega) only [Int32.lt_iff_toInt_lt, Int32.le_iff_toInt_le, ← Int32.toInt_inj, Int32.reduceToInt, nI_toInt] at c3 c1RephasPerson c5RephasPerson c1JVisLength m2MDisIn; omega)
            · refine jr_iload rfl rfl ?_
              refine jr_iload rfl rfl ?_
              refine jr_icmp_gt rfl (fun m5MDisIn => ?_) (fun m5MDisIn => ?_)
              · refine jr_ic rfl ?_
                refine jr_zret rfl rfl rfl (Nat.zero_le _) (Nat.zero_le _) ?_
                refine jr_zret rfl rfl rfl (Nat.zero_le _) (Nat.zero_le _) ?_
                refine jr_if_eq rfl (fun _ => ?_) (fun z => absurd (by decide) z)
                refine jr_ic rfl ?_
                refine jr_iret rfl rfl (Nat.zero_le _) (Nat.zero_le _) ?_
                first
                  | exact ⟨rfl, (jz_Rel_p hRel0 hS3)⟩
                  | exact ⟨rfl, hRel0⟩
                  | (exfalso; omega)
                  | (exfalso; simp (disch := omega) only [Int32.lt_iff_toInt_lt, Int32.le_iff_toInt_le, ← Int32.toInt_inj, Int32.reduceToInt, nI_toInt] at c3 c1RephasPerson c5RephasPerson c1JVisLength m2MDisIn m5MDisIn; done)
                  | (exfalso; simp (disch := omega) only [Int32.lt_iff_toInt_lt, Int32.le_iff_toInt_le, ← Int32.toInt_inj, Int32.reduceToInt, nI_toInt] at c3 c1RephasPerson c5RephasPerson c1JVisLength m2MDisIn m5MDisIn; omega)
              · refine jr_ic rfl ?_
                refine jr_goto rfl ?_
                refine jr_zret rfl rfl rfl (Nat.zero_le _) (Nat.zero_le _) ?_
                refine jr_zret rfl rfl rfl (Nat.zero_le _) (Nat.zero_le _) ?_
                refine jr_if_eq rfl (fun z => absurd z (by decide)) (fun _ => ?_)
                refine jr_iload rfl rfl ?_
                refine jr_ic rfl ?_
                refine jr_ic rfl ?_
                refine jr_cs3 (mc' := 0) (ms' := 0) rfl jm_MD_isIn_n jm_MD_isIn_f rfl rfl rfl rfl rfl (Nat.zero_le _) (Nat.zero_le _) ?_
                show jx_W (jm_MD_isIn, _, _, _, _, _, _) _ 0 0 0 [some _, some _, some _] [] _
                refine jr_iload rfl rfl ?_
                refine jr_iload rfl rfl ?_
                refine jr_icmp_lt rfl (fun m2MDisIn_2 => ?_) (fun m2MDisIn_2 => ?_)
                · refine jr_ic rfl ?_
                  refine jr_zret rfl rfl rfl (Nat.zero_le _) (Nat.zero_le _) ?_
                  refine jr_if_eq rfl (fun _ => ?_) (fun z => absurd (by decide) z)
                  refine jr_ic rfl ?_
                  refine jr_iret rfl rfl (Nat.zero_le _) (Nat.zero_le _) ?_
                  first
                    | exact ⟨rfl, (jz_Rel_p hRel0 hS3)⟩
                    | exact ⟨rfl, hRel0⟩
                    | (exfalso; omega)
                    | (exfalso; simp (disch := omega) only [Int32.lt_iff_toInt_lt, Int32.le_iff_toInt_le, ← Int32.toInt_inj, Int32.reduceToInt, nI_toInt] at c3 c1RephasPerson c5RephasPerson c1JVisLength m2MDisIn m5MDisIn m2MDisIn_2; done)
                    | (exfalso; simp (disch := omega) only [Int32.lt_iff_toInt_lt, Int32.le_iff_toInt_le, ← Int32.toInt_inj, Int32.reduceToInt, nI_toInt] at c3 c1RephasPerson c5RephasPerson c1JVisLength m2MDisIn m5MDisIn m2MDisIn_2; omega)
                · refine jr_iload rfl rfl ?_
                  refine jr_iload rfl rfl ?_
                  refine jr_icmp_gt rfl (fun m5MDisIn_2 => ?_) (fun m5MDisIn_2 => ?_)
                  · refine jr_ic rfl ?_
                    refine jr_zret rfl rfl rfl (Nat.zero_le _) (Nat.zero_le _) ?_
                    refine jr_if_eq rfl (fun _ => ?_) (fun z => absurd (by decide) z)
                    refine jr_ic rfl ?_
                    refine jr_iret rfl rfl (Nat.zero_le _) (Nat.zero_le _) ?_
                    first
                      | exact ⟨rfl, (jz_Rel_p hRel0 hS3)⟩
                      | exact ⟨rfl, hRel0⟩
                      | (exfalso; omega)
                      | (exfalso; simp (disch := omega) only [Int32.lt_iff_toInt_lt, Int32.le_iff_toInt_le, ← Int32.toInt_inj, Int32.reduceToInt, nI_toInt] at c3 c1RephasPerson c5RephasPerson c1JVisLength m2MDisIn m5MDisIn m2MDisIn_2 m5MDisIn_2; done)
                      | (exfalso; simp (disch := omega) only [Int32.lt_iff_toInt_lt, Int32.le_iff_toInt_le, ← Int32.toInt_inj, Int32.reduceToInt, nI_toInt] at c3 c1RephasPerson c5RephasPerson c1JVisLength m2MDisIn m5MDisIn m2MDisIn_2 m5MDisIn_2; omega)
                  · refine jr_ic rfl ?_
                    refine jr_goto rfl ?_
                    refine jr_zret rfl rfl rfl (Nat.zero_le _) (Nat.zero_le _) ?_
                    refine jr_if_eq rfl (fun z => absurd z (by decide)) (fun _ => ?_)
                    refine jr_aload rfl rfl ?_
                    refine jr_cv0 (mc' := 0) (ms' := 0) rfl jm_MD_hasMonths_n jm_MD_hasMonths_f rfl rfl rfl rfl rfl rfl rfl (Nat.zero_le _) (Nat.zero_le _) ?_
                    show jx_W (jm_MD_hasMonths, _, _, _, _, _, _) _ 0 0 0 [some _] [] _
                    refine jr_aload rfl rfl ?_
                    refine jr_getR rfl rfl rfl rfl (Or.inl rfl) ?_
                    refine jr_aload rfl rfl ?_
                    refine jr_getI rfl rfl ?_
                    refine jr_iald (len := 2) rfl rfl hw.1 (by omega) ?_
                    refine jr_if_le rfl (fun m5MDhasMonths => ?_) (fun m5MDhasMonths => ?_)
                    · refine jr_ic rfl ?_
                      refine jr_zret rfl rfl rfl (Nat.zero_le _) (Nat.zero_le _) ?_
                      refine jr_if_eq rfl (fun _ => ?_) (fun z => absurd (by decide) z)
                      refine jr_ic rfl ?_
                      refine jr_iret rfl rfl (Nat.zero_le _) (Nat.zero_le _) ?_
                      first
                        | exact ⟨rfl, (jz_Rel_p hRel0 hS3)⟩
                        | exact ⟨rfl, hRel0⟩
                        | (exfalso; omega)
                        | (exfalso; simp (disch := omega) only [Int32.lt_iff_toInt_lt, Int32.le_iff_toInt_le, ← Int32.toInt_inj, Int32.reduceToInt, nI_toInt] at c3 c1RephasPerson c5RephasPerson c1JVisLength m2MDisIn m5MDisIn m2MDisIn_2 m5MDisIn_2 m5MDhasMonths; done)
                        | (exfalso; simp (disch := omega) only [Int32.lt_iff_toInt_lt, Int32.le_iff_toInt_le, ← Int32.toInt_inj, Int32.reduceToInt, nI_toInt] at c3 c1RephasPerson c5RephasPerson c1JVisLength m2MDisIn m5MDisIn m2MDisIn_2 m5MDisIn_2 m5MDhasMonths; omega)
                    · refine jr_ic rfl ?_
                      refine jr_goto rfl ?_
                      refine jr_zret rfl rfl rfl (Nat.zero_le _) (Nat.zero_le _) ?_
                      refine jr_if_eq rfl (fun z => absurd z (by decide)) (fun _ => ?_)
                      refine jr_aload rfl rfl ?_
                      refine jr_iload rfl rfl ?_
                      refine jr_iload rfl rfl ?_
                      refine jr_cv2 (mc' := 0) (ms' := 0) rfl jm_MD_worthOf_n jm_MD_worthOf_f rfl rfl rfl rfl rfl rfl rfl (Nat.zero_le _) (Nat.zero_le _) ?_
                      refine eB_worthOf hw hmo (by omega) (fun S3 hS3 => ?_)
                      refine jr_goto rfl ?_
                      refine jr_iret rfl rfl (Nat.zero_le _) (Nat.zero_le _) ?_
                      first
                        | exact ⟨rfl, (jz_Rel_p hRel0 hS3)⟩
                        | exact ⟨rfl, hRel0⟩
                        | (exfalso; omega)
                        | (exfalso; simp (disch := omega) only [Int32.lt_iff_toInt_lt, Int32.le_iff_toInt_le, ← Int32.toInt_inj, Int32.reduceToInt, nI_toInt] at c3 c1RephasPerson c5RephasPerson c1JVisLength m2MDisIn m5MDisIn m2MDisIn_2 m5MDisIn_2 m5MDhasMonths; done)
                        | (exfalso; simp (disch := omega) only [Int32.lt_iff_toInt_lt, Int32.le_iff_toInt_le, ← Int32.toInt_inj, Int32.reduceToInt, nI_toInt] at c3 c1RephasPerson c5RephasPerson c1JVisLength m2MDisIn m5MDisIn m2MDisIn_2 m5MDisIn_2 m5MDhasMonths; omega)
          · refine jr_iload rfl rfl ?_
            refine jr_ic rfl ?_
            refine jr_icmp_gt rfl (fun c4JVisLength => ?_) (fun c4JVisLength => ?_)
            · refine jr_ic rfl ?_
              refine jr_zret rfl rfl rfl (Nat.zero_le _) (Nat.zero_le _) ?_
              refine jr_if_ne rfl (fun z => absurd (by decide) z) (fun _ => ?_)
              refine jr_ic rfl ?_
              refine jr_iret rfl rfl (Nat.zero_le _) (Nat.zero_le _) ?_
              show jx_W (jm_MD_worth, d + 40, 0, 0, false, 1, _) _ 0 0 0 [some _, some _, some _] [] _
              refine jr_aload rfl rfl ?_
              refine jr_iload rfl rfl ?_
              refine jr_cv1 (mc' := 0) (ms' := 0) rfl jm_MD_isPerson_n jm_MD_isPerson_f rfl rfl rfl rfl rfl rfl rfl (Nat.zero_le _) (Nat.zero_le _) ?_
              show jx_W (jm_MD_isPerson, _, _, _, _, _, _) _ 0 0 0 [some _, some _] [] _
              refine jr_iload rfl rfl ?_
              refine jr_ic rfl ?_
              refine jr_aload rfl rfl ?_
              refine jr_cv0 (mc' := 0) (ms' := 0) rfl jm_MD_personMany_n jm_MD_personMany_f rfl rfl rfl rfl rfl rfl rfl (Nat.zero_le _) (Nat.zero_le _) ?_
              show jx_W (jm_MD_personMany, _, _, _, _, _, _) _ 0 0 0 [some _] [] _
              refine jr_aload rfl rfl ?_
              refine jr_getR rfl rfl rfl rfl (Or.inl rfl) ?_
              refine jr_aload rfl rfl ?_
              refine jr_getI rfl rfl ?_
              refine jr_iald (len := 2) rfl rfl hw.1 (by omega) ?_
              refine jr_iret rfl rfl (Nat.zero_le _) (Nat.zero_le _) ?_
              refine jr_ic rfl ?_
              refine jr_isub rfl ?_
              refine jr_cs3 (mc' := 0) (ms' := 0) rfl jm_MD_isIn_n jm_MD_isIn_f rfl rfl rfl rfl rfl (Nat.zero_le _) (Nat.zero_le _) ?_
              show jx_W (jm_MD_isIn, _, _, _, _, _, _) _ 0 0 0 [some _, some _, some _] [] _
              refine jr_iload rfl rfl ?_
              refine jr_iload rfl rfl ?_
              refine jr_icmp_lt rfl (fun m2MDisIn => ?_) (fun m2MDisIn => ?_)
              · refine jr_ic rfl ?_
                refine jr_zret rfl rfl rfl (Nat.zero_le _) (Nat.zero_le _) ?_
                refine jr_zret rfl rfl rfl (Nat.zero_le _) (Nat.zero_le _) ?_
                refine jr_if_eq rfl (fun _ => ?_) (fun z => absurd (by decide) z)
                refine jr_ic rfl ?_
                refine jr_iret rfl rfl (Nat.zero_le _) (Nat.zero_le _) ?_
                first
                  | exact ⟨rfl, (jz_Rel_p hRel0 hS3)⟩
                  | exact ⟨rfl, hRel0⟩
                  | (exfalso; omega)
                  | (exfalso; simp (disch := omega) only [Int32.lt_iff_toInt_lt, Int32.le_iff_toInt_le, ← Int32.toInt_inj, Int32.reduceToInt, nI_toInt] at c3 c1RephasPerson c5RephasPerson c1JVisLength c4JVisLength m2MDisIn; done)
                  | (exfalso; simp (disch := omega) only [Int32.lt_iff_toInt_lt, Int32.le_iff_toInt_le, ← Int32.toInt_inj, Int32.reduceToInt, nI_toInt] at c3 c1RephasPerson c5RephasPerson c1JVisLength c4JVisLength m2MDisIn; omega)
              · refine jr_iload rfl rfl ?_
                refine jr_iload rfl rfl ?_
                refine jr_icmp_gt rfl (fun m5MDisIn => ?_) (fun m5MDisIn => ?_)
                · refine jr_ic rfl ?_
                  refine jr_zret rfl rfl rfl (Nat.zero_le _) (Nat.zero_le _) ?_
                  refine jr_zret rfl rfl rfl (Nat.zero_le _) (Nat.zero_le _) ?_
                  refine jr_if_eq rfl (fun _ => ?_) (fun z => absurd (by decide) z)
                  refine jr_ic rfl ?_
                  refine jr_iret rfl rfl (Nat.zero_le _) (Nat.zero_le _) ?_
                  first
                    | exact ⟨rfl, (jz_Rel_p hRel0 hS3)⟩
                    | exact ⟨rfl, hRel0⟩
                    | (exfalso; omega)
                    | (exfalso; simp (disch := omega) only [Int32.lt_iff_toInt_lt, Int32.le_iff_toInt_le, ← Int32.toInt_inj, Int32.reduceToInt, nI_toInt] at c3 c1RephasPerson c5RephasPerson c1JVisLength c4JVisLength m2MDisIn m5MDisIn; done)
                    | (exfalso; simp (disch := omega) only [Int32.lt_iff_toInt_lt, Int32.le_iff_toInt_le, ← Int32.toInt_inj, Int32.reduceToInt, nI_toInt] at c3 c1RephasPerson c5RephasPerson c1JVisLength c4JVisLength m2MDisIn m5MDisIn; omega)
                · refine jr_ic rfl ?_
                  refine jr_goto rfl ?_
                  refine jr_zret rfl rfl rfl (Nat.zero_le _) (Nat.zero_le _) ?_
                  refine jr_zret rfl rfl rfl (Nat.zero_le _) (Nat.zero_le _) ?_
                  refine jr_if_eq rfl (fun z => absurd z (by decide)) (fun _ => ?_)
                  refine jr_iload rfl rfl ?_
                  refine jr_ic rfl ?_
                  refine jr_ic rfl ?_
                  refine jr_cs3 (mc' := 0) (ms' := 0) rfl jm_MD_isIn_n jm_MD_isIn_f rfl rfl rfl rfl rfl (Nat.zero_le _) (Nat.zero_le _) ?_
                  show jx_W (jm_MD_isIn, _, _, _, _, _, _) _ 0 0 0 [some _, some _, some _] [] _
                  refine jr_iload rfl rfl ?_
                  refine jr_iload rfl rfl ?_
                  refine jr_icmp_lt rfl (fun m2MDisIn_2 => ?_) (fun m2MDisIn_2 => ?_)
                  · refine jr_ic rfl ?_
                    refine jr_zret rfl rfl rfl (Nat.zero_le _) (Nat.zero_le _) ?_
                    refine jr_if_eq rfl (fun _ => ?_) (fun z => absurd (by decide) z)
                    refine jr_ic rfl ?_
                    refine jr_iret rfl rfl (Nat.zero_le _) (Nat.zero_le _) ?_
                    first
                      | exact ⟨rfl, (jz_Rel_p hRel0 hS3)⟩
                      | exact ⟨rfl, hRel0⟩
                      | (exfalso; omega)
                      | (exfalso; simp (disch := omega) only [Int32.lt_iff_toInt_lt, Int32.le_iff_toInt_le, ← Int32.toInt_inj, Int32.reduceToInt, nI_toInt] at c3 c1RephasPerson c5RephasPerson c1JVisLength c4JVisLength m2MDisIn m5MDisIn m2MDisIn_2; done)
                      | (exfalso; simp (disch := omega) only [Int32.lt_iff_toInt_lt, Int32.le_iff_toInt_le, ← Int32.toInt_inj, Int32.reduceToInt, nI_toInt] at c3 c1RephasPerson c5RephasPerson c1JVisLength c4JVisLength m2MDisIn m5MDisIn m2MDisIn_2; omega)
                  · refine jr_iload rfl rfl ?_
                    refine jr_iload rfl rfl ?_
                    refine jr_icmp_gt rfl (fun m5MDisIn_2 => ?_) (fun m5MDisIn_2 => ?_)
                    · refine jr_ic rfl ?_
                      refine jr_zret rfl rfl rfl (Nat.zero_le _) (Nat.zero_le _) ?_
                      refine jr_if_eq rfl (fun _ => ?_) (fun z => absurd (by decide) z)
                      refine jr_ic rfl ?_
                      refine jr_iret rfl rfl (Nat.zero_le _) (Nat.zero_le _) ?_
                      first
                        | exact ⟨rfl, (jz_Rel_p hRel0 hS3)⟩
                        | exact ⟨rfl, hRel0⟩
                        | (exfalso; omega)
                        | (exfalso; simp (disch := omega) only [Int32.lt_iff_toInt_lt, Int32.le_iff_toInt_le, ← Int32.toInt_inj, Int32.reduceToInt, nI_toInt] at c3 c1RephasPerson c5RephasPerson c1JVisLength c4JVisLength m2MDisIn m5MDisIn m2MDisIn_2 m5MDisIn_2; done)
                        | (exfalso; simp (disch := omega) only [Int32.lt_iff_toInt_lt, Int32.le_iff_toInt_le, ← Int32.toInt_inj, Int32.reduceToInt, nI_toInt] at c3 c1RephasPerson c5RephasPerson c1JVisLength c4JVisLength m2MDisIn m5MDisIn m2MDisIn_2 m5MDisIn_2; omega)
                    · refine jr_ic rfl ?_
                      refine jr_goto rfl ?_
                      refine jr_zret rfl rfl rfl (Nat.zero_le _) (Nat.zero_le _) ?_
                      refine jr_if_eq rfl (fun z => absurd z (by decide)) (fun _ => ?_)
                      refine jr_aload rfl rfl ?_
                      refine jr_cv0 (mc' := 0) (ms' := 0) rfl jm_MD_hasMonths_n jm_MD_hasMonths_f rfl rfl rfl rfl rfl rfl rfl (Nat.zero_le _) (Nat.zero_le _) ?_
                      show jx_W (jm_MD_hasMonths, _, _, _, _, _, _) _ 0 0 0 [some _] [] _
                      refine jr_aload rfl rfl ?_
                      refine jr_getR rfl rfl rfl rfl (Or.inl rfl) ?_
                      refine jr_aload rfl rfl ?_
                      refine jr_getI rfl rfl ?_
                      refine jr_iald (len := 2) rfl rfl hw.1 (by omega) ?_
                      refine jr_if_le rfl (fun m5MDhasMonths => ?_) (fun m5MDhasMonths => ?_)
                      · refine jr_ic rfl ?_
                        refine jr_zret rfl rfl rfl (Nat.zero_le _) (Nat.zero_le _) ?_
                        refine jr_if_eq rfl (fun _ => ?_) (fun z => absurd (by decide) z)
                        refine jr_ic rfl ?_
                        refine jr_iret rfl rfl (Nat.zero_le _) (Nat.zero_le _) ?_
                        first
                          | exact ⟨rfl, (jz_Rel_p hRel0 hS3)⟩
                          | exact ⟨rfl, hRel0⟩
                          | (exfalso; omega)
                          | (exfalso; simp (disch := omega) only [Int32.lt_iff_toInt_lt, Int32.le_iff_toInt_le, ← Int32.toInt_inj, Int32.reduceToInt, nI_toInt] at c3 c1RephasPerson c5RephasPerson c1JVisLength c4JVisLength m2MDisIn m5MDisIn m2MDisIn_2 m5MDisIn_2 m5MDhasMonths; done)
                          | (exfalso; simp (disch := omega) only [Int32.lt_iff_toInt_lt, Int32.le_iff_toInt_le, ← Int32.toInt_inj, Int32.reduceToInt, nI_toInt] at c3 c1RephasPerson c5RephasPerson c1JVisLength c4JVisLength m2MDisIn m5MDisIn m2MDisIn_2 m5MDisIn_2 m5MDhasMonths; omega)
                      · refine jr_ic rfl ?_
                        refine jr_goto rfl ?_
                        refine jr_zret rfl rfl rfl (Nat.zero_le _) (Nat.zero_le _) ?_
                        refine jr_if_eq rfl (fun z => absurd z (by decide)) (fun _ => ?_)
                        refine jr_aload rfl rfl ?_
                        refine jr_iload rfl rfl ?_
                        refine jr_iload rfl rfl ?_
                        refine jr_cv2 (mc' := 0) (ms' := 0) rfl jm_MD_worthOf_n jm_MD_worthOf_f rfl rfl rfl rfl rfl rfl rfl (Nat.zero_le _) (Nat.zero_le _) ?_
                        refine eB_worthOf hw hmo (by omega) (fun S3 hS3 => ?_)
                        refine jr_goto rfl ?_
                        refine jr_iret rfl rfl (Nat.zero_le _) (Nat.zero_le _) ?_
                        first
                          | exact ⟨rfl, (jz_Rel_p hRel0 hS3)⟩
                          | exact ⟨rfl, hRel0⟩
                          | (exfalso; omega)
                          | (exfalso; simp (disch := omega) only [Int32.lt_iff_toInt_lt, Int32.le_iff_toInt_le, ← Int32.toInt_inj, Int32.reduceToInt, nI_toInt] at c3 c1RephasPerson c5RephasPerson c1JVisLength c4JVisLength m2MDisIn m5MDisIn m2MDisIn_2 m5MDisIn_2 m5MDhasMonths; done)
                          | (exfalso; simp (disch := omega) only [Int32.lt_iff_toInt_lt, Int32.le_iff_toInt_le, ← Int32.toInt_inj, Int32.reduceToInt, nI_toInt] at c3 c1RephasPerson c5RephasPerson c1JVisLength c4JVisLength m2MDisIn m5MDisIn m2MDisIn_2 m5MDisIn_2 m5MDhasMonths; omega)
            · refine jr_ic rfl ?_
              refine jr_goto rfl ?_
              refine jr_zret rfl rfl rfl (Nat.zero_le _) (Nat.zero_le _) ?_
              refine jr_if_ne rfl (fun _ => ?_) (fun z => absurd z (by decide))
              refine jr_aload rfl rfl ?_
              refine jr_getR rfl rfl rfl rfl (Or.inl rfl) ?_
              refine jr_aload rfl rfl ?_
              refine jr_getR rfl rfl rfl rfl (Or.inl rfl) ?_
              refine jr_cv1 (mc' := 0) (ms' := 0) rfl jm_Poll_open_n jm_Poll_open_f rfl rfl rfl rfl rfl rfl rfl (Nat.zero_le _) (Nat.zero_le _) ?_
              refine eB_open hw hA hR hmo (fun S1 hP1 hM1 => ?_)
              refine jr_aload rfl rfl ?_
              refine jr_getR rfl rfl rfl rfl (Or.inl rfl) ?_
              refine jr_iload rfl rfl ?_
              refine jr_iload rfl rfl ?_
              refine jr_cv2 (mc' := 0) (ms' := 0) rfl jm_Poll_worthOf_n jm_Poll_worthOf_f rfl rfl rfl rfl rfl rfl rfl (Nat.zero_le _) (Nat.zero_le _) ?_
              show jx_W (jm_Poll_worthOf, _, _, _, _, _, _) _ 0 0 0 [some _, some _, some _] [] _
              refine jr_aload rfl rfl ?_
              refine jr_iload rfl rfl ?_
              refine jr_iload rfl rfl ?_
              refine jr_iload rfl rfl ?_
              refine jr_cv3 (mc' := 0) (ms' := 0) rfl jm_Poll_valueOf_n jm_Poll_valueOf_f rfl rfl rfl rfl rfl rfl rfl (Nat.zero_le _) (Nat.zero_le _) ?_
              refine eP_worth hw hmo hA hR hP1 (by omega) (by omega) (fun S2 f2 => ?_)
              refine jr_iret rfl rfl (Nat.zero_le _) (Nat.zero_le _) ?_
              refine jr_iret rfl rfl (Nat.zero_le _) (Nat.zero_le _) ?_
              show jx_W (jm_MD_worth, d + 40, 0, 0, false, 1, _) _ 0 0 0 [some _, some _, some _] [] _
              refine jr_aload rfl rfl ?_
              refine jr_iload rfl rfl ?_
              refine jr_cv1 (mc' := 0) (ms' := 0) rfl jm_MD_isPerson_n jm_MD_isPerson_f rfl rfl rfl rfl rfl rfl rfl (Nat.zero_le _) (Nat.zero_le _) ?_
              show jx_W (jm_MD_isPerson, _, _, _, _, _, _) _ 0 0 0 [some _, some _] [] _
              refine jr_iload rfl rfl ?_
              refine jr_ic rfl ?_
              refine jr_aload rfl rfl ?_
              refine jr_cv0 (mc' := 0) (ms' := 0) rfl jm_MD_personMany_n jm_MD_personMany_f rfl rfl rfl rfl rfl rfl rfl (Nat.zero_le _) (Nat.zero_le _) ?_
              show jx_W (jm_MD_personMany, _, _, _, _, _, _) _ 0 0 0 [some _] [] _
              refine jr_aload rfl rfl ?_
              refine jr_getR rfl rfl rfl rfl (Or.inl rfl) ?_
              refine jr_aload rfl rfl ?_
              refine jr_getI rfl rfl ?_
              refine jr_iald (len := 2) rfl rfl hw.1 (by omega) ?_
              refine jr_iret rfl rfl (Nat.zero_le _) (Nat.zero_le _) ?_
              refine jr_ic rfl ?_
              refine jr_isub rfl ?_
              refine jr_cs3 (mc' := 0) (ms' := 0) rfl jm_MD_isIn_n jm_MD_isIn_f rfl rfl rfl rfl rfl (Nat.zero_le _) (Nat.zero_le _) ?_
              show jx_W (jm_MD_isIn, _, _, _, _, _, _) _ 0 0 0 [some _, some _, some _] [] _
              refine jr_iload rfl rfl ?_
              refine jr_iload rfl rfl ?_
              refine jr_icmp_lt rfl (fun m2MDisIn => ?_) (fun m2MDisIn => ?_)
              · refine jr_ic rfl ?_
                refine jr_zret rfl rfl rfl (Nat.zero_le _) (Nat.zero_le _) ?_
                refine jr_zret rfl rfl rfl (Nat.zero_le _) (Nat.zero_le _) ?_
                refine jr_if_eq rfl (fun _ => ?_) (fun z => absurd (by decide) z)
                refine jr_ic rfl ?_
                refine jr_iret rfl rfl (Nat.zero_le _) (Nat.zero_le _) ?_
                first
                  | exact ⟨rfl, (jz_Rel_p hRel0 hS3)⟩
                  | exact ⟨rfl, hRel0⟩
                  | (exfalso; omega)
                  | (exfalso; simp (disch := omega) only [Int32.lt_iff_toInt_lt, Int32.le_iff_toInt_le, ← Int32.toInt_inj, Int32.reduceToInt, nI_toInt] at c3 c1RephasPerson c5RephasPerson c1JVisLength c4JVisLength m2MDisIn; done)
                  | (exfalso; simp (disch := omega) only [Int32.lt_iff_toInt_lt, Int32.le_iff_toInt_le, ← Int32.toInt_inj, Int32.reduceToInt, nI_toInt] at c3 c1RephasPerson c5RephasPerson c1JVisLength c4JVisLength m2MDisIn; omega)
              · refine jr_iload rfl rfl ?_
                refine jr_iload rfl rfl ?_
                refine jr_icmp_gt rfl (fun m5MDisIn => ?_) (fun m5MDisIn => ?_)
                · refine jr_ic rfl ?_
                  refine jr_zret rfl rfl rfl (Nat.zero_le _) (Nat.zero_le _) ?_
                  refine jr_zret rfl rfl rfl (Nat.zero_le _) (Nat.zero_le _) ?_
                  refine jr_if_eq rfl (fun _ => ?_) (fun z => absurd (by decide) z)
                  refine jr_ic rfl ?_
                  refine jr_iret rfl rfl (Nat.zero_le _) (Nat.zero_le _) ?_
                  first
                    | exact ⟨rfl, (jz_Rel_p hRel0 hS3)⟩
                    | exact ⟨rfl, hRel0⟩
                    | (exfalso; omega)
                    | (exfalso; simp (disch := omega) only [Int32.lt_iff_toInt_lt, Int32.le_iff_toInt_le, ← Int32.toInt_inj, Int32.reduceToInt, nI_toInt] at c3 c1RephasPerson c5RephasPerson c1JVisLength c4JVisLength m2MDisIn m5MDisIn; done)
                    | (exfalso; simp (disch := omega) only [Int32.lt_iff_toInt_lt, Int32.le_iff_toInt_le, ← Int32.toInt_inj, Int32.reduceToInt, nI_toInt] at c3 c1RephasPerson c5RephasPerson c1JVisLength c4JVisLength m2MDisIn m5MDisIn; omega)
                · refine jr_ic rfl ?_
                  refine jr_goto rfl ?_
                  refine jr_zret rfl rfl rfl (Nat.zero_le _) (Nat.zero_le _) ?_
                  refine jr_zret rfl rfl rfl (Nat.zero_le _) (Nat.zero_le _) ?_
                  refine jr_if_eq rfl (fun z => absurd z (by decide)) (fun _ => ?_)
                  refine jr_iload rfl rfl ?_
                  refine jr_ic rfl ?_
                  refine jr_ic rfl ?_
                  refine jr_cs3 (mc' := 0) (ms' := 0) rfl jm_MD_isIn_n jm_MD_isIn_f rfl rfl rfl rfl rfl (Nat.zero_le _) (Nat.zero_le _) ?_
                  show jx_W (jm_MD_isIn, _, _, _, _, _, _) _ 0 0 0 [some _, some _, some _] [] _
                  refine jr_iload rfl rfl ?_
                  refine jr_iload rfl rfl ?_
                  refine jr_icmp_lt rfl (fun m2MDisIn_2 => ?_) (fun m2MDisIn_2 => ?_)
                  · refine jr_ic rfl ?_
                    refine jr_zret rfl rfl rfl (Nat.zero_le _) (Nat.zero_le _) ?_
                    refine jr_if_eq rfl (fun _ => ?_) (fun z => absurd (by decide) z)
                    refine jr_ic rfl ?_
                    refine jr_iret rfl rfl (Nat.zero_le _) (Nat.zero_le _) ?_
                    first
                      | exact ⟨rfl, (jz_Rel_p hRel0 hS3)⟩
                      | exact ⟨rfl, hRel0⟩
                      | (exfalso; omega)
                      | (exfalso; simp (disch := omega) only [Int32.lt_iff_toInt_lt, Int32.le_iff_toInt_le, ← Int32.toInt_inj, Int32.reduceToInt, nI_toInt] at c3 c1RephasPerson c5RephasPerson c1JVisLength c4JVisLength m2MDisIn m5MDisIn m2MDisIn_2; done)
                      | (exfalso; simp (disch := omega) only [Int32.lt_iff_toInt_lt, Int32.le_iff_toInt_le, ← Int32.toInt_inj, Int32.reduceToInt, nI_toInt] at c3 c1RephasPerson c5RephasPerson c1JVisLength c4JVisLength m2MDisIn m5MDisIn m2MDisIn_2; omega)
                  · refine jr_iload rfl rfl ?_
                    refine jr_iload rfl rfl ?_
                    refine jr_icmp_gt rfl (fun m5MDisIn_2 => ?_) (fun m5MDisIn_2 => ?_)
                    · refine jr_ic rfl ?_
                      refine jr_zret rfl rfl rfl (Nat.zero_le _) (Nat.zero_le _) ?_
                      refine jr_if_eq rfl (fun _ => ?_) (fun z => absurd (by decide) z)
                      refine jr_ic rfl ?_
                      refine jr_iret rfl rfl (Nat.zero_le _) (Nat.zero_le _) ?_
                      first
                        | exact ⟨rfl, (jz_Rel_p hRel0 hS3)⟩
                        | exact ⟨rfl, hRel0⟩
                        | (exfalso; omega)
                        | (exfalso; simp (disch := omega) only [Int32.lt_iff_toInt_lt, Int32.le_iff_toInt_le, ← Int32.toInt_inj, Int32.reduceToInt, nI_toInt] at c3 c1RephasPerson c5RephasPerson c1JVisLength c4JVisLength m2MDisIn m5MDisIn m2MDisIn_2 m5MDisIn_2; done)
                        | (exfalso; simp (disch := omega) only [Int32.lt_iff_toInt_lt, Int32.le_iff_toInt_le, ← Int32.toInt_inj, Int32.reduceToInt, nI_toInt] at c3 c1RephasPerson c5RephasPerson c1JVisLength c4JVisLength m2MDisIn m5MDisIn m2MDisIn_2 m5MDisIn_2; omega)
                    · refine jr_ic rfl ?_
                      refine jr_goto rfl ?_
                      refine jr_zret rfl rfl rfl (Nat.zero_le _) (Nat.zero_le _) ?_
                      refine jr_if_eq rfl (fun z => absurd z (by decide)) (fun _ => ?_)
                      refine jr_aload rfl rfl ?_
                      refine jr_cv0 (mc' := 0) (ms' := 0) rfl jm_MD_hasMonths_n jm_MD_hasMonths_f rfl rfl rfl rfl rfl rfl rfl (Nat.zero_le _) (Nat.zero_le _) ?_
                      show jx_W (jm_MD_hasMonths, _, _, _, _, _, _) _ 0 0 0 [some _] [] _
                      refine jr_aload rfl rfl ?_
                      refine jr_getR rfl rfl rfl rfl (Or.inl rfl) ?_
                      refine jr_aload rfl rfl ?_
                      refine jr_getI rfl rfl ?_
                      refine jr_iald (len := 2) rfl rfl hw.1 (by omega) ?_
                      refine jr_if_le rfl (fun m5MDhasMonths => ?_) (fun m5MDhasMonths => ?_)
                      · refine jr_ic rfl ?_
                        refine jr_zret rfl rfl rfl (Nat.zero_le _) (Nat.zero_le _) ?_
                        refine jr_if_eq rfl (fun _ => ?_) (fun z => absurd (by decide) z)
                        refine jr_ic rfl ?_
                        refine jr_iret rfl rfl (Nat.zero_le _) (Nat.zero_le _) ?_
                        first
                          | exact ⟨rfl, (jz_Rel_p hRel0 hS3)⟩
                          | exact ⟨rfl, hRel0⟩
                          | (exfalso; omega)
                          | (exfalso; simp (disch := omega) only [Int32.lt_iff_toInt_lt, Int32.le_iff_toInt_le, ← Int32.toInt_inj, Int32.reduceToInt, nI_toInt] at c3 c1RephasPerson c5RephasPerson c1JVisLength c4JVisLength m2MDisIn m5MDisIn m2MDisIn_2 m5MDisIn_2 m5MDhasMonths; done)
                          | (exfalso; simp (disch := omega) only [Int32.lt_iff_toInt_lt, Int32.le_iff_toInt_le, ← Int32.toInt_inj, Int32.reduceToInt, nI_toInt] at c3 c1RephasPerson c5RephasPerson c1JVisLength c4JVisLength m2MDisIn m5MDisIn m2MDisIn_2 m5MDisIn_2 m5MDhasMonths; omega)
                      · refine jr_ic rfl ?_
                        refine jr_goto rfl ?_
                        refine jr_zret rfl rfl rfl (Nat.zero_le _) (Nat.zero_le _) ?_
                        refine jr_if_eq rfl (fun z => absurd z (by decide)) (fun _ => ?_)
                        refine jr_aload rfl rfl ?_
                        refine jr_iload rfl rfl ?_
                        refine jr_iload rfl rfl ?_
                        refine jr_cv2 (mc' := 0) (ms' := 0) rfl jm_MD_worthOf_n jm_MD_worthOf_f rfl rfl rfl rfl rfl rfl rfl (Nat.zero_le _) (Nat.zero_le _) ?_
                        refine eB_worthOf hw hmo (by omega) (fun S3 hS3 => ?_)
                        refine jr_goto rfl ?_
                        refine jr_iret rfl rfl (Nat.zero_le _) (Nat.zero_le _) ?_
                        first
                          | exact ⟨rfl, (jz_Rel_p hRel0 hS3)⟩
                          | exact ⟨rfl, hRel0⟩
                          | (exfalso; omega)
                          | (exfalso; simp (disch := omega) only [Int32.lt_iff_toInt_lt, Int32.le_iff_toInt_le, ← Int32.toInt_inj, Int32.reduceToInt, nI_toInt] at c3 c1RephasPerson c5RephasPerson c1JVisLength c4JVisLength m2MDisIn m5MDisIn m2MDisIn_2 m5MDisIn_2 m5MDhasMonths; done)
                          | (exfalso; simp (disch := omega) only [Int32.lt_iff_toInt_lt, Int32.le_iff_toInt_le, ← Int32.toInt_inj, Int32.reduceToInt, nI_toInt] at c3 c1RephasPerson c5RephasPerson c1JVisLength c4JVisLength m2MDisIn m5MDisIn m2MDisIn_2 m5MDisIn_2 m5MDhasMonths; omega)
  · obtain ⟨hmo', hx⟩ := not_or.mp hmo
    clear hmo
    have hmo := hmo'
    have hn1 : 0 < jz_nm hm b := by
      rcases Nat.eq_zero_or_pos (jz_nm hm b) with e | e
      · rw [e] at hnm; exact absurd hnm.1 hmo
      · exact e
    show jx_W (jm_JV_worth, d + 40, 0, 0, false, 0, _) _ 0 0 0 [some (jv_r 10 0), some (jv_i x), some (jv_i y)] [] _
    refine jr_aload rfl rfl ?_
    refine jr_getM rfl rfl rfl rfl hto ?_
    refine jr_getI rfl rfl ?_
    refine jr_if_eq rfl (fun c3 => ?_) (fun c3 => ?_)
    · refine jr_ic rfl ?_
      refine jr_iret rfl rfl (Nat.zero_le _) (Nat.zero_le _) ?_
      show jx_W (jm_MD_worth, d + 40, 0, 0, false, 1, _) _ 0 0 0 [some _, some _, some _] [] _
      refine jr_aload rfl rfl ?_
      refine jr_iload rfl rfl ?_
      refine jr_cv1 (mc' := 0) (ms' := 0) rfl jm_MD_isPerson_n jm_MD_isPerson_f rfl rfl rfl rfl rfl rfl rfl (Nat.zero_le _) (Nat.zero_le _) ?_
      show jx_W (jm_MD_isPerson, _, _, _, _, _, _) _ 0 0 0 [some _, some _] [] _
      refine jr_iload rfl rfl ?_
      refine jr_ic rfl ?_
      refine jr_aload rfl rfl ?_
      refine jr_cv0 (mc' := 0) (ms' := 0) rfl jm_MD_personMany_n jm_MD_personMany_f rfl rfl rfl rfl rfl rfl rfl (Nat.zero_le _) (Nat.zero_le _) ?_
      show jx_W (jm_MD_personMany, _, _, _, _, _, _) _ 0 0 0 [some _] [] _
      refine jr_aload rfl rfl ?_
      refine jr_getR rfl rfl rfl rfl (Or.inl rfl) ?_
      refine jr_aload rfl rfl ?_
      refine jr_getI rfl rfl ?_
      refine jr_iald (len := 2) rfl rfl hw.1 (by omega) ?_
      refine jr_iret rfl rfl (Nat.zero_le _) (Nat.zero_le _) ?_
      refine jr_ic rfl ?_
      refine jr_isub rfl ?_
      refine jr_cs3 (mc' := 0) (ms' := 0) rfl jm_MD_isIn_n jm_MD_isIn_f rfl rfl rfl rfl rfl (Nat.zero_le _) (Nat.zero_le _) ?_
      show jx_W (jm_MD_isIn, _, _, _, _, _, _) _ 0 0 0 [some _, some _, some _] [] _
      refine jr_iload rfl rfl ?_
      refine jr_iload rfl rfl ?_
      refine jr_icmp_lt rfl (fun m2MDisIn => ?_) (fun m2MDisIn => ?_)
      · refine jr_ic rfl ?_
        refine jr_zret rfl rfl rfl (Nat.zero_le _) (Nat.zero_le _) ?_
        refine jr_zret rfl rfl rfl (Nat.zero_le _) (Nat.zero_le _) ?_
        refine jr_if_eq rfl (fun _ => ?_) (fun z => absurd (by decide) z)
        refine jr_ic rfl ?_
        refine jr_iret rfl rfl (Nat.zero_le _) (Nat.zero_le _) ?_
        first
          | exact ⟨rfl, hRel0⟩
          | (exfalso; omega)
          | (exfalso; simp (disch := omega) only [Int32.lt_iff_toInt_lt, Int32.le_iff_toInt_le, ← Int32.toInt_inj, Int32.reduceToInt, nI_toInt] at c3 m2MDisIn; done)
          | (exfalso; simp (disch := omega) only [Int32.lt_iff_toInt_lt, Int32.le_iff_toInt_le, ← Int32.toInt_inj, Int32.reduceToInt, nI_toInt] at c3 m2MDisIn; omega)
      · refine jr_iload rfl rfl ?_
        refine jr_iload rfl rfl ?_
        refine jr_icmp_gt rfl (fun m5MDisIn => ?_) (fun m5MDisIn => ?_)
        · refine jr_ic rfl ?_
          refine jr_zret rfl rfl rfl (Nat.zero_le _) (Nat.zero_le _) ?_
          refine jr_zret rfl rfl rfl (Nat.zero_le _) (Nat.zero_le _) ?_
          refine jr_if_eq rfl (fun _ => ?_) (fun z => absurd (by decide) z)
          refine jr_ic rfl ?_
          refine jr_iret rfl rfl (Nat.zero_le _) (Nat.zero_le _) ?_
          first
            | exact ⟨rfl, hRel0⟩
            | (exfalso; omega)
            | (exfalso; simp (disch := omega) only [Int32.lt_iff_toInt_lt, Int32.le_iff_toInt_le, ← Int32.toInt_inj, Int32.reduceToInt, nI_toInt] at c3 m2MDisIn m5MDisIn; done)
            | (exfalso; simp (disch := omega) only [Int32.lt_iff_toInt_lt, Int32.le_iff_toInt_le, ← Int32.toInt_inj, Int32.reduceToInt, nI_toInt] at c3 m2MDisIn m5MDisIn; omega)
        · refine jr_ic rfl ?_
          refine jr_goto rfl ?_
          refine jr_zret rfl rfl rfl (Nat.zero_le _) (Nat.zero_le _) ?_
          refine jr_zret rfl rfl rfl (Nat.zero_le _) (Nat.zero_le _) ?_
          refine jr_if_eq rfl (fun z => absurd z (by decide)) (fun _ => ?_)
          refine jr_iload rfl rfl ?_
          refine jr_ic rfl ?_
          refine jr_ic rfl ?_
          refine jr_cs3 (mc' := 0) (ms' := 0) rfl jm_MD_isIn_n jm_MD_isIn_f rfl rfl rfl rfl rfl (Nat.zero_le _) (Nat.zero_le _) ?_
          show jx_W (jm_MD_isIn, _, _, _, _, _, _) _ 0 0 0 [some _, some _, some _] [] _
          refine jr_iload rfl rfl ?_
          refine jr_iload rfl rfl ?_
          refine jr_icmp_lt rfl (fun m2MDisIn_2 => ?_) (fun m2MDisIn_2 => ?_)
          · refine jr_ic rfl ?_
            refine jr_zret rfl rfl rfl (Nat.zero_le _) (Nat.zero_le _) ?_
            refine jr_if_eq rfl (fun _ => ?_) (fun z => absurd (by decide) z)
            refine jr_ic rfl ?_
            refine jr_iret rfl rfl (Nat.zero_le _) (Nat.zero_le _) ?_
            first
              | exact ⟨rfl, hRel0⟩
              | (exfalso; omega)
              | (exfalso; simp (disch := omega) only [Int32.lt_iff_toInt_lt, Int32.le_iff_toInt_le, ← Int32.toInt_inj, Int32.reduceToInt, nI_toInt] at c3 m2MDisIn m5MDisIn m2MDisIn_2; done)
              | (exfalso; simp (disch := omega) only [Int32.lt_iff_toInt_lt, Int32.le_iff_toInt_le, ← Int32.toInt_inj, Int32.reduceToInt, nI_toInt] at c3 m2MDisIn m5MDisIn m2MDisIn_2; omega)
          · refine jr_iload rfl rfl ?_
            refine jr_iload rfl rfl ?_
            refine jr_icmp_gt rfl (fun m5MDisIn_2 => ?_) (fun m5MDisIn_2 => ?_)
            · refine jr_ic rfl ?_
              refine jr_zret rfl rfl rfl (Nat.zero_le _) (Nat.zero_le _) ?_
              refine jr_if_eq rfl (fun _ => ?_) (fun z => absurd (by decide) z)
              refine jr_ic rfl ?_
              refine jr_iret rfl rfl (Nat.zero_le _) (Nat.zero_le _) ?_
              first
                | exact ⟨rfl, hRel0⟩
                | (exfalso; omega)
                | (exfalso; simp (disch := omega) only [Int32.lt_iff_toInt_lt, Int32.le_iff_toInt_le, ← Int32.toInt_inj, Int32.reduceToInt, nI_toInt] at c3 m2MDisIn m5MDisIn m2MDisIn_2 m5MDisIn_2; done)
                | (exfalso; simp (disch := omega) only [Int32.lt_iff_toInt_lt, Int32.le_iff_toInt_le, ← Int32.toInt_inj, Int32.reduceToInt, nI_toInt] at c3 m2MDisIn m5MDisIn m2MDisIn_2 m5MDisIn_2; omega)
            · refine jr_ic rfl ?_
              refine jr_goto rfl ?_
              refine jr_zret rfl rfl rfl (Nat.zero_le _) (Nat.zero_le _) ?_
              refine jr_if_eq rfl (fun z => absurd z (by decide)) (fun _ => ?_)
              refine jr_aload rfl rfl ?_
              refine jr_cv0 (mc' := 0) (ms' := 0) rfl jm_MD_hasMonths_n jm_MD_hasMonths_f rfl rfl rfl rfl rfl rfl rfl (Nat.zero_le _) (Nat.zero_le _) ?_
              show jx_W (jm_MD_hasMonths, _, _, _, _, _, _) _ 0 0 0 [some _] [] _
              refine jr_aload rfl rfl ?_
              refine jr_getR rfl rfl rfl rfl (Or.inl rfl) ?_
              refine jr_aload rfl rfl ?_
              refine jr_getI rfl rfl ?_
              refine jr_iald (len := 2) rfl rfl hw.1 (by omega) ?_
              refine jr_if_le rfl (fun m5MDhasMonths => ?_) (fun m5MDhasMonths => ?_)
              · refine jr_ic rfl ?_
                refine jr_zret rfl rfl rfl (Nat.zero_le _) (Nat.zero_le _) ?_
                refine jr_if_eq rfl (fun _ => ?_) (fun z => absurd (by decide) z)
                refine jr_ic rfl ?_
                refine jr_iret rfl rfl (Nat.zero_le _) (Nat.zero_le _) ?_
                first
                  | exact ⟨rfl, hRel0⟩
                  | (exfalso; omega)
                  | (exfalso; simp (disch := omega) only [Int32.lt_iff_toInt_lt, Int32.le_iff_toInt_le, ← Int32.toInt_inj, Int32.reduceToInt, nI_toInt] at c3 m2MDisIn m5MDisIn m2MDisIn_2 m5MDisIn_2 m5MDhasMonths; done)
                  | (exfalso; simp (disch := omega) only [Int32.lt_iff_toInt_lt, Int32.le_iff_toInt_le, ← Int32.toInt_inj, Int32.reduceToInt, nI_toInt] at c3 m2MDisIn m5MDisIn m2MDisIn_2 m5MDisIn_2 m5MDhasMonths; omega)
              · refine jr_ic rfl ?_
                refine jr_goto rfl ?_
                refine jr_zret rfl rfl rfl (Nat.zero_le _) (Nat.zero_le _) ?_
                refine jr_if_eq rfl (fun z => absurd z (by decide)) (fun _ => ?_)
                refine jr_aload rfl rfl ?_
                refine jr_iload rfl rfl ?_
                refine jr_iload rfl rfl ?_
                refine jr_cv2 (mc' := 0) (ms' := 0) rfl jm_MD_worthOf_n jm_MD_worthOf_f rfl rfl rfl rfl rfl rfl rfl (Nat.zero_le _) (Nat.zero_le _) ?_
                first
                  | (exfalso; omega)
                  | (exfalso; simp (disch := omega) only [Int32.lt_iff_toInt_lt, Int32.le_iff_toInt_le, ← Int32.toInt_inj, Int32.reduceToInt, nI_toInt] at c3 m2MDisIn m5MDisIn m2MDisIn_2 m5MDisIn_2 m5MDhasMonths; done)
                  | (exfalso; simp (disch := omega) only [Int32.lt_iff_toInt_lt, Int32.le_iff_toInt_le, ← Int32.toInt_inj, Int32.reduceToInt, nI_toInt] at c3 m2MDisIn m5MDisIn m2MDisIn_2 m5MDisIn_2 m5MDhasMonths; omega)
    · refine jr_aload rfl rfl ?_
      refine jr_getM rfl rfl rfl rfl hto ?_
      refine jr_iload rfl rfl ?_
      refine jr_cv1 (mc' := 0) (ms' := 0) rfl jm_Rep_hasPerson_n jm_Rep_hasPerson_f rfl rfl rfl rfl rfl rfl rfl (Nat.zero_le _) (Nat.zero_le _) ?_
      show jx_W (jm_Rep_hasPerson, _, _, _, _, _, _) _ 0 0 0 [some _, some _] [] _
      refine jr_iload rfl rfl ?_
      refine jr_if_lt rfl (fun c1RephasPerson => ?_) (fun c1RephasPerson => ?_)
      · refine jr_ic rfl ?_
        refine jr_zret rfl rfl rfl (Nat.zero_le _) (Nat.zero_le _) ?_
        refine jr_if_eq rfl (fun _ => ?_) (fun z => absurd (by decide) z)
        refine jr_ic rfl ?_
        refine jr_iret rfl rfl (Nat.zero_le _) (Nat.zero_le _) ?_
        show jx_W (jm_MD_worth, d + 40, 0, 0, false, 1, _) _ 0 0 0 [some _, some _, some _] [] _
        refine jr_aload rfl rfl ?_
        refine jr_iload rfl rfl ?_
        refine jr_cv1 (mc' := 0) (ms' := 0) rfl jm_MD_isPerson_n jm_MD_isPerson_f rfl rfl rfl rfl rfl rfl rfl (Nat.zero_le _) (Nat.zero_le _) ?_
        show jx_W (jm_MD_isPerson, _, _, _, _, _, _) _ 0 0 0 [some _, some _] [] _
        refine jr_iload rfl rfl ?_
        refine jr_ic rfl ?_
        refine jr_aload rfl rfl ?_
        refine jr_cv0 (mc' := 0) (ms' := 0) rfl jm_MD_personMany_n jm_MD_personMany_f rfl rfl rfl rfl rfl rfl rfl (Nat.zero_le _) (Nat.zero_le _) ?_
        show jx_W (jm_MD_personMany, _, _, _, _, _, _) _ 0 0 0 [some _] [] _
        refine jr_aload rfl rfl ?_
        refine jr_getR rfl rfl rfl rfl (Or.inl rfl) ?_
        refine jr_aload rfl rfl ?_
        refine jr_getI rfl rfl ?_
        refine jr_iald (len := 2) rfl rfl hw.1 (by omega) ?_
        refine jr_iret rfl rfl (Nat.zero_le _) (Nat.zero_le _) ?_
        refine jr_ic rfl ?_
        refine jr_isub rfl ?_
        refine jr_cs3 (mc' := 0) (ms' := 0) rfl jm_MD_isIn_n jm_MD_isIn_f rfl rfl rfl rfl rfl (Nat.zero_le _) (Nat.zero_le _) ?_
        show jx_W (jm_MD_isIn, _, _, _, _, _, _) _ 0 0 0 [some _, some _, some _] [] _
        refine jr_iload rfl rfl ?_
        refine jr_iload rfl rfl ?_
        refine jr_icmp_lt rfl (fun m2MDisIn => ?_) (fun m2MDisIn => ?_)
        · refine jr_ic rfl ?_
          refine jr_zret rfl rfl rfl (Nat.zero_le _) (Nat.zero_le _) ?_
          refine jr_zret rfl rfl rfl (Nat.zero_le _) (Nat.zero_le _) ?_
          refine jr_if_eq rfl (fun _ => ?_) (fun z => absurd (by decide) z)
          refine jr_ic rfl ?_
          refine jr_iret rfl rfl (Nat.zero_le _) (Nat.zero_le _) ?_
          first
            | exact ⟨rfl, hRel0⟩
            | (exfalso; omega)
            | (exfalso; simp (disch := omega) only [Int32.lt_iff_toInt_lt, Int32.le_iff_toInt_le, ← Int32.toInt_inj, Int32.reduceToInt, nI_toInt] at c3 c1RephasPerson m2MDisIn; done)
            | (exfalso; simp (disch := omega) only [Int32.lt_iff_toInt_lt, Int32.le_iff_toInt_le, ← Int32.toInt_inj, Int32.reduceToInt, nI_toInt] at c3 c1RephasPerson m2MDisIn; omega)
        · refine jr_iload rfl rfl ?_
          refine jr_iload rfl rfl ?_
          refine jr_icmp_gt rfl (fun m5MDisIn => ?_) (fun m5MDisIn => ?_)
          · refine jr_ic rfl ?_
            refine jr_zret rfl rfl rfl (Nat.zero_le _) (Nat.zero_le _) ?_
            refine jr_zret rfl rfl rfl (Nat.zero_le _) (Nat.zero_le _) ?_
            refine jr_if_eq rfl (fun _ => ?_) (fun z => absurd (by decide) z)
            refine jr_ic rfl ?_
            refine jr_iret rfl rfl (Nat.zero_le _) (Nat.zero_le _) ?_
            first
              | exact ⟨rfl, hRel0⟩
              | (exfalso; omega)
              | (exfalso; simp (disch := omega) only [Int32.lt_iff_toInt_lt, Int32.le_iff_toInt_le, ← Int32.toInt_inj, Int32.reduceToInt, nI_toInt] at c3 c1RephasPerson m2MDisIn m5MDisIn; done)
              | (exfalso; simp (disch := omega) only [Int32.lt_iff_toInt_lt, Int32.le_iff_toInt_le, ← Int32.toInt_inj, Int32.reduceToInt, nI_toInt] at c3 c1RephasPerson m2MDisIn m5MDisIn; omega)
          · refine jr_ic rfl ?_
            refine jr_goto rfl ?_
            refine jr_zret rfl rfl rfl (Nat.zero_le _) (Nat.zero_le _) ?_
            refine jr_zret rfl rfl rfl (Nat.zero_le _) (Nat.zero_le _) ?_
            refine jr_if_eq rfl (fun z => absurd z (by decide)) (fun _ => ?_)
            refine jr_iload rfl rfl ?_
            refine jr_ic rfl ?_
            refine jr_ic rfl ?_
            refine jr_cs3 (mc' := 0) (ms' := 0) rfl jm_MD_isIn_n jm_MD_isIn_f rfl rfl rfl rfl rfl (Nat.zero_le _) (Nat.zero_le _) ?_
            show jx_W (jm_MD_isIn, _, _, _, _, _, _) _ 0 0 0 [some _, some _, some _] [] _
            refine jr_iload rfl rfl ?_
            refine jr_iload rfl rfl ?_
            refine jr_icmp_lt rfl (fun m2MDisIn_2 => ?_) (fun m2MDisIn_2 => ?_)
            · refine jr_ic rfl ?_
              refine jr_zret rfl rfl rfl (Nat.zero_le _) (Nat.zero_le _) ?_
              refine jr_if_eq rfl (fun _ => ?_) (fun z => absurd (by decide) z)
              refine jr_ic rfl ?_
              refine jr_iret rfl rfl (Nat.zero_le _) (Nat.zero_le _) ?_
              first
                | exact ⟨rfl, hRel0⟩
                | (exfalso; omega)
                | (exfalso; simp (disch := omega) only [Int32.lt_iff_toInt_lt, Int32.le_iff_toInt_le, ← Int32.toInt_inj, Int32.reduceToInt, nI_toInt] at c3 c1RephasPerson m2MDisIn m5MDisIn m2MDisIn_2; done)
                | (exfalso; simp (disch := omega) only [Int32.lt_iff_toInt_lt, Int32.le_iff_toInt_le, ← Int32.toInt_inj, Int32.reduceToInt, nI_toInt] at c3 c1RephasPerson m2MDisIn m5MDisIn m2MDisIn_2; omega)
            · refine jr_iload rfl rfl ?_
              refine jr_iload rfl rfl ?_
              refine jr_icmp_gt rfl (fun m5MDisIn_2 => ?_) (fun m5MDisIn_2 => ?_)
              · refine jr_ic rfl ?_
                refine jr_zret rfl rfl rfl (Nat.zero_le _) (Nat.zero_le _) ?_
                refine jr_if_eq rfl (fun _ => ?_) (fun z => absurd (by decide) z)
                refine jr_ic rfl ?_
                refine jr_iret rfl rfl (Nat.zero_le _) (Nat.zero_le _) ?_
                first
                  | exact ⟨rfl, hRel0⟩
                  | (exfalso; omega)
                  | (exfalso; simp (disch := omega) only [Int32.lt_iff_toInt_lt, Int32.le_iff_toInt_le, ← Int32.toInt_inj, Int32.reduceToInt, nI_toInt] at c3 c1RephasPerson m2MDisIn m5MDisIn m2MDisIn_2 m5MDisIn_2; done)
                  | (exfalso; simp (disch := omega) only [Int32.lt_iff_toInt_lt, Int32.le_iff_toInt_le, ← Int32.toInt_inj, Int32.reduceToInt, nI_toInt] at c3 c1RephasPerson m2MDisIn m5MDisIn m2MDisIn_2 m5MDisIn_2; omega)
              · refine jr_ic rfl ?_
                refine jr_goto rfl ?_
                refine jr_zret rfl rfl rfl (Nat.zero_le _) (Nat.zero_le _) ?_
                refine jr_if_eq rfl (fun z => absurd z (by decide)) (fun _ => ?_)
                refine jr_aload rfl rfl ?_
                refine jr_cv0 (mc' := 0) (ms' := 0) rfl jm_MD_hasMonths_n jm_MD_hasMonths_f rfl rfl rfl rfl rfl rfl rfl (Nat.zero_le _) (Nat.zero_le _) ?_
                show jx_W (jm_MD_hasMonths, _, _, _, _, _, _) _ 0 0 0 [some _] [] _
                refine jr_aload rfl rfl ?_
                refine jr_getR rfl rfl rfl rfl (Or.inl rfl) ?_
                refine jr_aload rfl rfl ?_
                refine jr_getI rfl rfl ?_
                refine jr_iald (len := 2) rfl rfl hw.1 (by omega) ?_
                refine jr_if_le rfl (fun m5MDhasMonths => ?_) (fun m5MDhasMonths => ?_)
                · refine jr_ic rfl ?_
                  refine jr_zret rfl rfl rfl (Nat.zero_le _) (Nat.zero_le _) ?_
                  refine jr_if_eq rfl (fun _ => ?_) (fun z => absurd (by decide) z)
                  refine jr_ic rfl ?_
                  refine jr_iret rfl rfl (Nat.zero_le _) (Nat.zero_le _) ?_
                  first
                    | exact ⟨rfl, hRel0⟩
                    | (exfalso; omega)
                    | (exfalso; simp (disch := omega) only [Int32.lt_iff_toInt_lt, Int32.le_iff_toInt_le, ← Int32.toInt_inj, Int32.reduceToInt, nI_toInt] at c3 c1RephasPerson m2MDisIn m5MDisIn m2MDisIn_2 m5MDisIn_2 m5MDhasMonths; done)
                    | (exfalso; simp (disch := omega) only [Int32.lt_iff_toInt_lt, Int32.le_iff_toInt_le, ← Int32.toInt_inj, Int32.reduceToInt, nI_toInt] at c3 c1RephasPerson m2MDisIn m5MDisIn m2MDisIn_2 m5MDisIn_2 m5MDhasMonths; omega)
                · refine jr_ic rfl ?_
                  refine jr_goto rfl ?_
                  refine jr_zret rfl rfl rfl (Nat.zero_le _) (Nat.zero_le _) ?_
                  refine jr_if_eq rfl (fun z => absurd z (by decide)) (fun _ => ?_)
                  refine jr_aload rfl rfl ?_
                  refine jr_iload rfl rfl ?_
                  refine jr_iload rfl rfl ?_
                  refine jr_cv2 (mc' := 0) (ms' := 0) rfl jm_MD_worthOf_n jm_MD_worthOf_f rfl rfl rfl rfl rfl rfl rfl (Nat.zero_le _) (Nat.zero_le _) ?_
                  first
                    | (exfalso; omega)
                    | (exfalso; simp (disch := omega) only [Int32.lt_iff_toInt_lt, Int32.le_iff_toInt_le, ← Int32.toInt_inj, Int32.reduceToInt, nI_toInt] at c3 c1RephasPerson m2MDisIn m5MDisIn m2MDisIn_2 m5MDisIn_2 m5MDhasMonths; done)
                    | (exfalso; simp (disch := omega) only [Int32.lt_iff_toInt_lt, Int32.le_iff_toInt_le, ← Int32.toInt_inj, Int32.reduceToInt, nI_toInt] at c3 c1RephasPerson m2MDisIn m5MDisIn m2MDisIn_2 m5MDisIn_2 m5MDhasMonths; omega)
      · refine jr_iload rfl rfl ?_
        refine jr_aload rfl rfl ?_
        refine jr_getI rfl rfl ?_
        refine jr_icmp_ge rfl (fun c5RephasPerson => ?_) (fun c5RephasPerson => ?_)
        · refine jr_ic rfl ?_
          refine jr_zret rfl rfl rfl (Nat.zero_le _) (Nat.zero_le _) ?_
          refine jr_if_eq rfl (fun _ => ?_) (fun z => absurd (by decide) z)
          refine jr_ic rfl ?_
          refine jr_iret rfl rfl (Nat.zero_le _) (Nat.zero_le _) ?_
          show jx_W (jm_MD_worth, d + 40, 0, 0, false, 1, _) _ 0 0 0 [some _, some _, some _] [] _
          refine jr_aload rfl rfl ?_
          refine jr_iload rfl rfl ?_
          refine jr_cv1 (mc' := 0) (ms' := 0) rfl jm_MD_isPerson_n jm_MD_isPerson_f rfl rfl rfl rfl rfl rfl rfl (Nat.zero_le _) (Nat.zero_le _) ?_
          show jx_W (jm_MD_isPerson, _, _, _, _, _, _) _ 0 0 0 [some _, some _] [] _
          refine jr_iload rfl rfl ?_
          refine jr_ic rfl ?_
          refine jr_aload rfl rfl ?_
          refine jr_cv0 (mc' := 0) (ms' := 0) rfl jm_MD_personMany_n jm_MD_personMany_f rfl rfl rfl rfl rfl rfl rfl (Nat.zero_le _) (Nat.zero_le _) ?_
          show jx_W (jm_MD_personMany, _, _, _, _, _, _) _ 0 0 0 [some _] [] _
          refine jr_aload rfl rfl ?_
          refine jr_getR rfl rfl rfl rfl (Or.inl rfl) ?_
          refine jr_aload rfl rfl ?_
          refine jr_getI rfl rfl ?_
          refine jr_iald (len := 2) rfl rfl hw.1 (by omega) ?_
          refine jr_iret rfl rfl (Nat.zero_le _) (Nat.zero_le _) ?_
          refine jr_ic rfl ?_
          refine jr_isub rfl ?_
          refine jr_cs3 (mc' := 0) (ms' := 0) rfl jm_MD_isIn_n jm_MD_isIn_f rfl rfl rfl rfl rfl (Nat.zero_le _) (Nat.zero_le _) ?_
          show jx_W (jm_MD_isIn, _, _, _, _, _, _) _ 0 0 0 [some _, some _, some _] [] _
          refine jr_iload rfl rfl ?_
          refine jr_iload rfl rfl ?_
          refine jr_icmp_lt rfl (fun m2MDisIn => ?_) (fun m2MDisIn => ?_)
          · refine jr_ic rfl ?_
            refine jr_zret rfl rfl rfl (Nat.zero_le _) (Nat.zero_le _) ?_
            refine jr_zret rfl rfl rfl (Nat.zero_le _) (Nat.zero_le _) ?_
            refine jr_if_eq rfl (fun _ => ?_) (fun z => absurd (by decide) z)
            refine jr_ic rfl ?_
            refine jr_iret rfl rfl (Nat.zero_le _) (Nat.zero_le _) ?_
            first
              | exact ⟨rfl, hRel0⟩
              | (exfalso; omega)
              | (exfalso; simp (disch := omega) only [Int32.lt_iff_toInt_lt, Int32.le_iff_toInt_le, ← Int32.toInt_inj, Int32.reduceToInt, nI_toInt] at c3 c1RephasPerson c5RephasPerson m2MDisIn; done)
              | (exfalso; simp (disch := omega) only [Int32.lt_iff_toInt_lt, Int32.le_iff_toInt_le, ← Int32.toInt_inj, Int32.reduceToInt, nI_toInt] at c3 c1RephasPerson c5RephasPerson m2MDisIn; omega)
          · refine jr_iload rfl rfl ?_
            refine jr_iload rfl rfl ?_
            refine jr_icmp_gt rfl (fun m5MDisIn => ?_) (fun m5MDisIn => ?_)
            · refine jr_ic rfl ?_
              refine jr_zret rfl rfl rfl (Nat.zero_le _) (Nat.zero_le _) ?_
              refine jr_zret rfl rfl rfl (Nat.zero_le _) (Nat.zero_le _) ?_
              refine jr_if_eq rfl (fun _ => ?_) (fun z => absurd (by decide) z)
              refine jr_ic rfl ?_
              refine jr_iret rfl rfl (Nat.zero_le _) (Nat.zero_le _) ?_
              first
                | exact ⟨rfl, hRel0⟩
                | (exfalso; omega)
                | (exfalso; simp (disch := omega) only [Int32.lt_iff_toInt_lt, Int32.le_iff_toInt_le, ← Int32.toInt_inj, Int32.reduceToInt, nI_toInt] at c3 c1RephasPerson c5RephasPerson m2MDisIn m5MDisIn; done)
                | (exfalso; simp (disch := omega) only [Int32.lt_iff_toInt_lt, Int32.le_iff_toInt_le, ← Int32.toInt_inj, Int32.reduceToInt, nI_toInt] at c3 c1RephasPerson c5RephasPerson m2MDisIn m5MDisIn; omega)
            · refine jr_ic rfl ?_
              refine jr_goto rfl ?_
              refine jr_zret rfl rfl rfl (Nat.zero_le _) (Nat.zero_le _) ?_
              refine jr_zret rfl rfl rfl (Nat.zero_le _) (Nat.zero_le _) ?_
              refine jr_if_eq rfl (fun z => absurd z (by decide)) (fun _ => ?_)
              refine jr_iload rfl rfl ?_
              refine jr_ic rfl ?_
              refine jr_ic rfl ?_
              refine jr_cs3 (mc' := 0) (ms' := 0) rfl jm_MD_isIn_n jm_MD_isIn_f rfl rfl rfl rfl rfl (Nat.zero_le _) (Nat.zero_le _) ?_
              show jx_W (jm_MD_isIn, _, _, _, _, _, _) _ 0 0 0 [some _, some _, some _] [] _
              refine jr_iload rfl rfl ?_
              refine jr_iload rfl rfl ?_
              refine jr_icmp_lt rfl (fun m2MDisIn_2 => ?_) (fun m2MDisIn_2 => ?_)
              · refine jr_ic rfl ?_
                refine jr_zret rfl rfl rfl (Nat.zero_le _) (Nat.zero_le _) ?_
                refine jr_if_eq rfl (fun _ => ?_) (fun z => absurd (by decide) z)
                refine jr_ic rfl ?_
                refine jr_iret rfl rfl (Nat.zero_le _) (Nat.zero_le _) ?_
                first
                  | exact ⟨rfl, hRel0⟩
                  | (exfalso; omega)
                  | (exfalso; simp (disch := omega) only [Int32.lt_iff_toInt_lt, Int32.le_iff_toInt_le, ← Int32.toInt_inj, Int32.reduceToInt, nI_toInt] at c3 c1RephasPerson c5RephasPerson m2MDisIn m5MDisIn m2MDisIn_2; done)
                  | (exfalso; simp (disch := omega) only [Int32.lt_iff_toInt_lt, Int32.le_iff_toInt_le, ← Int32.toInt_inj, Int32.reduceToInt, nI_toInt] at c3 c1RephasPerson c5RephasPerson m2MDisIn m5MDisIn m2MDisIn_2; omega)
              · refine jr_iload rfl rfl ?_
                refine jr_iload rfl rfl ?_
                refine jr_icmp_gt rfl (fun m5MDisIn_2 => ?_) (fun m5MDisIn_2 => ?_)
                · refine jr_ic rfl ?_
                  refine jr_zret rfl rfl rfl (Nat.zero_le _) (Nat.zero_le _) ?_
                  refine jr_if_eq rfl (fun _ => ?_) (fun z => absurd (by decide) z)
                  refine jr_ic rfl ?_
                  refine jr_iret rfl rfl (Nat.zero_le _) (Nat.zero_le _) ?_
                  first
                    | exact ⟨rfl, hRel0⟩
                    | (exfalso; omega)
                    | (exfalso; simp (disch := omega) only [Int32.lt_iff_toInt_lt, Int32.le_iff_toInt_le, ← Int32.toInt_inj, Int32.reduceToInt, nI_toInt] at c3 c1RephasPerson c5RephasPerson m2MDisIn m5MDisIn m2MDisIn_2 m5MDisIn_2; done)
                    | (exfalso; simp (disch := omega) only [Int32.lt_iff_toInt_lt, Int32.le_iff_toInt_le, ← Int32.toInt_inj, Int32.reduceToInt, nI_toInt] at c3 c1RephasPerson c5RephasPerson m2MDisIn m5MDisIn m2MDisIn_2 m5MDisIn_2; omega)
                · refine jr_ic rfl ?_
                  refine jr_goto rfl ?_
                  refine jr_zret rfl rfl rfl (Nat.zero_le _) (Nat.zero_le _) ?_
                  refine jr_if_eq rfl (fun z => absurd z (by decide)) (fun _ => ?_)
                  refine jr_aload rfl rfl ?_
                  refine jr_cv0 (mc' := 0) (ms' := 0) rfl jm_MD_hasMonths_n jm_MD_hasMonths_f rfl rfl rfl rfl rfl rfl rfl (Nat.zero_le _) (Nat.zero_le _) ?_
                  show jx_W (jm_MD_hasMonths, _, _, _, _, _, _) _ 0 0 0 [some _] [] _
                  refine jr_aload rfl rfl ?_
                  refine jr_getR rfl rfl rfl rfl (Or.inl rfl) ?_
                  refine jr_aload rfl rfl ?_
                  refine jr_getI rfl rfl ?_
                  refine jr_iald (len := 2) rfl rfl hw.1 (by omega) ?_
                  refine jr_if_le rfl (fun m5MDhasMonths => ?_) (fun m5MDhasMonths => ?_)
                  · refine jr_ic rfl ?_
                    refine jr_zret rfl rfl rfl (Nat.zero_le _) (Nat.zero_le _) ?_
                    refine jr_if_eq rfl (fun _ => ?_) (fun z => absurd (by decide) z)
                    refine jr_ic rfl ?_
                    refine jr_iret rfl rfl (Nat.zero_le _) (Nat.zero_le _) ?_
                    first
                      | exact ⟨rfl, hRel0⟩
                      | (exfalso; omega)
                      | (exfalso; simp (disch := omega) only [Int32.lt_iff_toInt_lt, Int32.le_iff_toInt_le, ← Int32.toInt_inj, Int32.reduceToInt, nI_toInt] at c3 c1RephasPerson c5RephasPerson m2MDisIn m5MDisIn m2MDisIn_2 m5MDisIn_2 m5MDhasMonths; done)
                      | (exfalso; simp (disch := omega) only [Int32.lt_iff_toInt_lt, Int32.le_iff_toInt_le, ← Int32.toInt_inj, Int32.reduceToInt, nI_toInt] at c3 c1RephasPerson c5RephasPerson m2MDisIn m5MDisIn m2MDisIn_2 m5MDisIn_2 m5MDhasMonths; omega)
                  · refine jr_ic rfl ?_
                    refine jr_goto rfl ?_
                    refine jr_zret rfl rfl rfl (Nat.zero_le _) (Nat.zero_le _) ?_
                    refine jr_if_eq rfl (fun z => absurd z (by decide)) (fun _ => ?_)
                    refine jr_aload rfl rfl ?_
                    refine jr_iload rfl rfl ?_
                    refine jr_iload rfl rfl ?_
                    refine jr_cv2 (mc' := 0) (ms' := 0) rfl jm_MD_worthOf_n jm_MD_worthOf_f rfl rfl rfl rfl rfl rfl rfl (Nat.zero_le _) (Nat.zero_le _) ?_
                    first
                      | (exfalso; omega)
                      | (exfalso; simp (disch := omega) only [Int32.lt_iff_toInt_lt, Int32.le_iff_toInt_le, ← Int32.toInt_inj, Int32.reduceToInt, nI_toInt] at c3 c1RephasPerson c5RephasPerson m2MDisIn m5MDisIn m2MDisIn_2 m5MDisIn_2 m5MDhasMonths; done)
                      | (exfalso; simp (disch := omega) only [Int32.lt_iff_toInt_lt, Int32.le_iff_toInt_le, ← Int32.toInt_inj, Int32.reduceToInt, nI_toInt] at c3 c1RephasPerson c5RephasPerson m2MDisIn m5MDisIn m2MDisIn_2 m5MDisIn_2 m5MDhasMonths; omega)
        · refine jr_ic rfl ?_
          refine jr_goto rfl ?_
          refine jr_zret rfl rfl rfl (Nat.zero_le _) (Nat.zero_le _) ?_
          refine jr_if_eq rfl (fun z => absurd z (by decide)) (fun _ => ?_)
          refine jr_iload rfl rfl ?_
          refine jr_cs1 (mc' := 0) (ms' := 0) rfl jm_JV_isLength_n jm_JV_isLength_f rfl rfl rfl rfl rfl (Nat.zero_le _) (Nat.zero_le _) ?_
          show jx_W (jm_JV_isLength, _, _, _, _, _, _) _ 0 0 0 [some _] [] _
          refine jr_iload rfl rfl ?_
          refine jr_if_lt rfl (fun c1JVisLength => ?_) (fun c1JVisLength => ?_)
          · refine jr_ic rfl ?_
            refine jr_zret rfl rfl rfl (Nat.zero_le _) (Nat.zero_le _) ?_
            refine jr_if_ne rfl (fun z => absurd (by decide) z) (fun _ => ?_)
            refine jr_ic rfl ?_
            refine jr_iret rfl rfl (Nat.zero_le _) (Nat.zero_le _) ?_
            show jx_W (jm_MD_worth, d + 40, 0, 0, false, 1, _) _ 0 0 0 [some _, some _, some _] [] _
            refine jr_aload rfl rfl ?_
            refine jr_iload rfl rfl ?_
            refine jr_cv1 (mc' := 0) (ms' := 0) rfl jm_MD_isPerson_n jm_MD_isPerson_f rfl rfl rfl rfl rfl rfl rfl (Nat.zero_le _) (Nat.zero_le _) ?_
            show jx_W (jm_MD_isPerson, _, _, _, _, _, _) _ 0 0 0 [some _, some _] [] _
            refine jr_iload rfl rfl ?_
            refine jr_ic rfl ?_
            refine jr_aload rfl rfl ?_
            refine jr_cv0 (mc' := 0) (ms' := 0) rfl jm_MD_personMany_n jm_MD_personMany_f rfl rfl rfl rfl rfl rfl rfl (Nat.zero_le _) (Nat.zero_le _) ?_
            show jx_W (jm_MD_personMany, _, _, _, _, _, _) _ 0 0 0 [some _] [] _
            refine jr_aload rfl rfl ?_
            refine jr_getR rfl rfl rfl rfl (Or.inl rfl) ?_
            refine jr_aload rfl rfl ?_
            refine jr_getI rfl rfl ?_
            refine jr_iald (len := 2) rfl rfl hw.1 (by omega) ?_
            refine jr_iret rfl rfl (Nat.zero_le _) (Nat.zero_le _) ?_
            refine jr_ic rfl ?_
            refine jr_isub rfl ?_
            refine jr_cs3 (mc' := 0) (ms' := 0) rfl jm_MD_isIn_n jm_MD_isIn_f rfl rfl rfl rfl rfl (Nat.zero_le _) (Nat.zero_le _) ?_
            show jx_W (jm_MD_isIn, _, _, _, _, _, _) _ 0 0 0 [some _, some _, some _] [] _
            refine jr_iload rfl rfl ?_
            refine jr_iload rfl rfl ?_
            refine jr_icmp_lt rfl (fun m2MDisIn => ?_) (fun m2MDisIn => ?_)
            · refine jr_ic rfl ?_
              refine jr_zret rfl rfl rfl (Nat.zero_le _) (Nat.zero_le _) ?_
              refine jr_zret rfl rfl rfl (Nat.zero_le _) (Nat.zero_le _) ?_
              refine jr_if_eq rfl (fun _ => ?_) (fun z => absurd (by decide) z)
              refine jr_ic rfl ?_
              refine jr_iret rfl rfl (Nat.zero_le _) (Nat.zero_le _) ?_
              first
                | exact ⟨rfl, hRel0⟩
                | (exfalso; omega)
                | (exfalso; simp (disch := omega) only [Int32.lt_iff_toInt_lt, Int32.le_iff_toInt_le, ← Int32.toInt_inj, Int32.reduceToInt, nI_toInt] at c3 c1RephasPerson c5RephasPerson c1JVisLength m2MDisIn; done)
                | (exfalso; simp (disch := omega) only [Int32.lt_iff_toInt_lt, Int32.le_iff_toInt_le, ← Int32.toInt_inj, Int32.reduceToInt, nI_toInt] at c3 c1RephasPerson c5RephasPerson c1JVisLength m2MDisIn; omega)
            · refine jr_iload rfl rfl ?_
              refine jr_iload rfl rfl ?_
              refine jr_icmp_gt rfl (fun m5MDisIn => ?_) (fun m5MDisIn => ?_)
              · refine jr_ic rfl ?_
                refine jr_zret rfl rfl rfl (Nat.zero_le _) (Nat.zero_le _) ?_
                refine jr_zret rfl rfl rfl (Nat.zero_le _) (Nat.zero_le _) ?_
                refine jr_if_eq rfl (fun _ => ?_) (fun z => absurd (by decide) z)
                refine jr_ic rfl ?_
                refine jr_iret rfl rfl (Nat.zero_le _) (Nat.zero_le _) ?_
                first
                  | exact ⟨rfl, hRel0⟩
                  | (exfalso; omega)
                  | (exfalso; simp (disch := omega) only [Int32.lt_iff_toInt_lt, Int32.le_iff_toInt_le, ← Int32.toInt_inj, Int32.reduceToInt, nI_toInt] at c3 c1RephasPerson c5RephasPerson c1JVisLength m2MDisIn m5MDisIn; done)
                  | (exfalso; simp (disch := omega) only [Int32.lt_iff_toInt_lt, Int32.le_iff_toInt_le, ← Int32.toInt_inj, Int32.reduceToInt, nI_toInt] at c3 c1RephasPerson c5RephasPerson c1JVisLength m2MDisIn m5MDisIn; omega)
              · refine jr_ic rfl ?_
                refine jr_goto rfl ?_
                refine jr_zret rfl rfl rfl (Nat.zero_le _) (Nat.zero_le _) ?_
                refine jr_zret rfl rfl rfl (Nat.zero_le _) (Nat.zero_le _) ?_
                refine jr_if_eq rfl (fun z => absurd z (by decide)) (fun _ => ?_)
                refine jr_iload rfl rfl ?_
                refine jr_ic rfl ?_
                refine jr_ic rfl ?_
                refine jr_cs3 (mc' := 0) (ms' := 0) rfl jm_MD_isIn_n jm_MD_isIn_f rfl rfl rfl rfl rfl (Nat.zero_le _) (Nat.zero_le _) ?_
                show jx_W (jm_MD_isIn, _, _, _, _, _, _) _ 0 0 0 [some _, some _, some _] [] _
                refine jr_iload rfl rfl ?_
                refine jr_iload rfl rfl ?_
                refine jr_icmp_lt rfl (fun m2MDisIn_2 => ?_) (fun m2MDisIn_2 => ?_)
                · refine jr_ic rfl ?_
                  refine jr_zret rfl rfl rfl (Nat.zero_le _) (Nat.zero_le _) ?_
                  refine jr_if_eq rfl (fun _ => ?_) (fun z => absurd (by decide) z)
                  refine jr_ic rfl ?_
                  refine jr_iret rfl rfl (Nat.zero_le _) (Nat.zero_le _) ?_
                  first
                    | exact ⟨rfl, hRel0⟩
                    | (exfalso; omega)
                    | (exfalso; simp (disch := omega) only [Int32.lt_iff_toInt_lt, Int32.le_iff_toInt_le, ← Int32.toInt_inj, Int32.reduceToInt, nI_toInt] at c3 c1RephasPerson c5RephasPerson c1JVisLength m2MDisIn m5MDisIn m2MDisIn_2; done)
                    | (exfalso; simp (disch := omega) only [Int32.lt_iff_toInt_lt, Int32.le_iff_toInt_le, ← Int32.toInt_inj, Int32.reduceToInt, nI_toInt] at c3 c1RephasPerson c5RephasPerson c1JVisLength m2MDisIn m5MDisIn m2MDisIn_2; omega)
                · refine jr_iload rfl rfl ?_
                  refine jr_iload rfl rfl ?_
                  refine jr_icmp_gt rfl (fun m5MDisIn_2 => ?_) (fun m5MDisIn_2 => ?_)
                  · refine jr_ic rfl ?_
                    refine jr_zret rfl rfl rfl (Nat.zero_le _) (Nat.zero_le _) ?_
                    refine jr_if_eq rfl (fun _ => ?_) (fun z => absurd (by decide) z)
                    refine jr_ic rfl ?_
                    refine jr_iret rfl rfl (Nat.zero_le _) (Nat.zero_le _) ?_
                    first
                      | exact ⟨rfl, hRel0⟩
                      | (exfalso; omega)
                      | (exfalso; simp (disch := omega) only [Int32.lt_iff_toInt_lt, Int32.le_iff_toInt_le, ← Int32.toInt_inj, Int32.reduceToInt, nI_toInt] at c3 c1RephasPerson c5RephasPerson c1JVisLength m2MDisIn m5MDisIn m2MDisIn_2 m5MDisIn_2; done)
                      | (exfalso; simp (disch := omega) only [Int32.lt_iff_toInt_lt, Int32.le_iff_toInt_le, ← Int32.toInt_inj, Int32.reduceToInt, nI_toInt] at c3 c1RephasPerson c5RephasPerson c1JVisLength m2MDisIn m5MDisIn m2MDisIn_2 m5MDisIn_2; omega)
                  · refine jr_ic rfl ?_
                    refine jr_goto rfl ?_
                    refine jr_zret rfl rfl rfl (Nat.zero_le _) (Nat.zero_le _) ?_
                    refine jr_if_eq rfl (fun z => absurd z (by decide)) (fun _ => ?_)
                    refine jr_aload rfl rfl ?_
                    refine jr_cv0 (mc' := 0) (ms' := 0) rfl jm_MD_hasMonths_n jm_MD_hasMonths_f rfl rfl rfl rfl rfl rfl rfl (Nat.zero_le _) (Nat.zero_le _) ?_
                    show jx_W (jm_MD_hasMonths, _, _, _, _, _, _) _ 0 0 0 [some _] [] _
                    refine jr_aload rfl rfl ?_
                    refine jr_getR rfl rfl rfl rfl (Or.inl rfl) ?_
                    refine jr_aload rfl rfl ?_
                    refine jr_getI rfl rfl ?_
                    refine jr_iald (len := 2) rfl rfl hw.1 (by omega) ?_
                    refine jr_if_le rfl (fun m5MDhasMonths => ?_) (fun m5MDhasMonths => ?_)
                    · refine jr_ic rfl ?_
                      refine jr_zret rfl rfl rfl (Nat.zero_le _) (Nat.zero_le _) ?_
                      refine jr_if_eq rfl (fun _ => ?_) (fun z => absurd (by decide) z)
                      refine jr_ic rfl ?_
                      refine jr_iret rfl rfl (Nat.zero_le _) (Nat.zero_le _) ?_
                      first
                        | exact ⟨rfl, hRel0⟩
                        | (exfalso; omega)
                        | (exfalso; simp (disch := omega) only [Int32.lt_iff_toInt_lt, Int32.le_iff_toInt_le, ← Int32.toInt_inj, Int32.reduceToInt, nI_toInt] at c3 c1RephasPerson c5RephasPerson c1JVisLength m2MDisIn m5MDisIn m2MDisIn_2 m5MDisIn_2 m5MDhasMonths; done)
                        | (exfalso; simp (disch := omega) only [Int32.lt_iff_toInt_lt, Int32.le_iff_toInt_le, ← Int32.toInt_inj, Int32.reduceToInt, nI_toInt] at c3 c1RephasPerson c5RephasPerson c1JVisLength m2MDisIn m5MDisIn m2MDisIn_2 m5MDisIn_2 m5MDhasMonths; omega)
                    · refine jr_ic rfl ?_
                      refine jr_goto rfl ?_
                      refine jr_zret rfl rfl rfl (Nat.zero_le _) (Nat.zero_le _) ?_
                      refine jr_if_eq rfl (fun z => absurd z (by decide)) (fun _ => ?_)
                      refine jr_aload rfl rfl ?_
                      refine jr_iload rfl rfl ?_
                      refine jr_iload rfl rfl ?_
                      refine jr_cv2 (mc' := 0) (ms' := 0) rfl jm_MD_worthOf_n jm_MD_worthOf_f rfl rfl rfl rfl rfl rfl rfl (Nat.zero_le _) (Nat.zero_le _) ?_
                      first
                        | (exfalso; omega)
                        | (exfalso; simp (disch := omega) only [Int32.lt_iff_toInt_lt, Int32.le_iff_toInt_le, ← Int32.toInt_inj, Int32.reduceToInt, nI_toInt] at c3 c1RephasPerson c5RephasPerson c1JVisLength m2MDisIn m5MDisIn m2MDisIn_2 m5MDisIn_2 m5MDhasMonths; done)
                        | (exfalso; simp (disch := omega) only [Int32.lt_iff_toInt_lt, Int32.le_iff_toInt_le, ← Int32.toInt_inj, Int32.reduceToInt, nI_toInt] at c3 c1RephasPerson c5RephasPerson c1JVisLength m2MDisIn m5MDisIn m2MDisIn_2 m5MDisIn_2 m5MDhasMonths; omega)
          · refine jr_iload rfl rfl ?_
            refine jr_ic rfl ?_
            refine jr_icmp_gt rfl (fun c4JVisLength => ?_) (fun c4JVisLength => ?_)
            · refine jr_ic rfl ?_
              refine jr_zret rfl rfl rfl (Nat.zero_le _) (Nat.zero_le _) ?_
              refine jr_if_ne rfl (fun z => absurd (by decide) z) (fun _ => ?_)
              refine jr_ic rfl ?_
              refine jr_iret rfl rfl (Nat.zero_le _) (Nat.zero_le _) ?_
              show jx_W (jm_MD_worth, d + 40, 0, 0, false, 1, _) _ 0 0 0 [some _, some _, some _] [] _
              refine jr_aload rfl rfl ?_
              refine jr_iload rfl rfl ?_
              refine jr_cv1 (mc' := 0) (ms' := 0) rfl jm_MD_isPerson_n jm_MD_isPerson_f rfl rfl rfl rfl rfl rfl rfl (Nat.zero_le _) (Nat.zero_le _) ?_
              show jx_W (jm_MD_isPerson, _, _, _, _, _, _) _ 0 0 0 [some _, some _] [] _
              refine jr_iload rfl rfl ?_
              refine jr_ic rfl ?_
              refine jr_aload rfl rfl ?_
              refine jr_cv0 (mc' := 0) (ms' := 0) rfl jm_MD_personMany_n jm_MD_personMany_f rfl rfl rfl rfl rfl rfl rfl (Nat.zero_le _) (Nat.zero_le _) ?_
              show jx_W (jm_MD_personMany, _, _, _, _, _, _) _ 0 0 0 [some _] [] _
              refine jr_aload rfl rfl ?_
              refine jr_getR rfl rfl rfl rfl (Or.inl rfl) ?_
              refine jr_aload rfl rfl ?_
              refine jr_getI rfl rfl ?_
              refine jr_iald (len := 2) rfl rfl hw.1 (by omega) ?_
              refine jr_iret rfl rfl (Nat.zero_le _) (Nat.zero_le _) ?_
              refine jr_ic rfl ?_
              refine jr_isub rfl ?_
              refine jr_cs3 (mc' := 0) (ms' := 0) rfl jm_MD_isIn_n jm_MD_isIn_f rfl rfl rfl rfl rfl (Nat.zero_le _) (Nat.zero_le _) ?_
              show jx_W (jm_MD_isIn, _, _, _, _, _, _) _ 0 0 0 [some _, some _, some _] [] _
              refine jr_iload rfl rfl ?_
              refine jr_iload rfl rfl ?_
              refine jr_icmp_lt rfl (fun m2MDisIn => ?_) (fun m2MDisIn => ?_)
              · refine jr_ic rfl ?_
                refine jr_zret rfl rfl rfl (Nat.zero_le _) (Nat.zero_le _) ?_
                refine jr_zret rfl rfl rfl (Nat.zero_le _) (Nat.zero_le _) ?_
                refine jr_if_eq rfl (fun _ => ?_) (fun z => absurd (by decide) z)
                refine jr_ic rfl ?_
                refine jr_iret rfl rfl (Nat.zero_le _) (Nat.zero_le _) ?_
                first
                  | exact ⟨rfl, hRel0⟩
                  | (exfalso; omega)
                  | (exfalso; simp (disch := omega) only [Int32.lt_iff_toInt_lt, Int32.le_iff_toInt_le, ← Int32.toInt_inj, Int32.reduceToInt, nI_toInt] at c3 c1RephasPerson c5RephasPerson c1JVisLength c4JVisLength m2MDisIn; done)
                  | (exfalso; simp (disch := omega) only [Int32.lt_iff_toInt_lt, Int32.le_iff_toInt_le, ← Int32.toInt_inj, Int32.reduceToInt, nI_toInt] at c3 c1RephasPerson c5RephasPerson c1JVisLength c4JVisLength m2MDisIn; omega)
              · refine jr_iload rfl rfl ?_
                refine jr_iload rfl rfl ?_
                refine jr_icmp_gt rfl (fun m5MDisIn => ?_) (fun m5MDisIn => ?_)
                · refine jr_ic rfl ?_
                  refine jr_zret rfl rfl rfl (Nat.zero_le _) (Nat.zero_le _) ?_
                  refine jr_zret rfl rfl rfl (Nat.zero_le _) (Nat.zero_le _) ?_
                  refine jr_if_eq rfl (fun _ => ?_) (fun z => absurd (by decide) z)
                  refine jr_ic rfl ?_
                  refine jr_iret rfl rfl (Nat.zero_le _) (Nat.zero_le _) ?_
                  first
                    | exact ⟨rfl, hRel0⟩
                    | (exfalso; omega)
                    | (exfalso; simp (disch := omega) only [Int32.lt_iff_toInt_lt, Int32.le_iff_toInt_le, ← Int32.toInt_inj, Int32.reduceToInt, nI_toInt] at c3 c1RephasPerson c5RephasPerson c1JVisLength c4JVisLength m2MDisIn m5MDisIn; done)
                    | (exfalso; simp (disch := omega) only [Int32.lt_iff_toInt_lt, Int32.le_iff_toInt_le, ← Int32.toInt_inj, Int32.reduceToInt, nI_toInt] at c3 c1RephasPerson c5RephasPerson c1JVisLength c4JVisLength m2MDisIn m5MDisIn; omega)
                · refine jr_ic rfl ?_
                  refine jr_goto rfl ?_
                  refine jr_zret rfl rfl rfl (Nat.zero_le _) (Nat.zero_le _) ?_
                  refine jr_zret rfl rfl rfl (Nat.zero_le _) (Nat.zero_le _) ?_
                  refine jr_if_eq rfl (fun z => absurd z (by decide)) (fun _ => ?_)
                  refine jr_iload rfl rfl ?_
                  refine jr_ic rfl ?_
                  refine jr_ic rfl ?_
                  refine jr_cs3 (mc' := 0) (ms' := 0) rfl jm_MD_isIn_n jm_MD_isIn_f rfl rfl rfl rfl rfl (Nat.zero_le _) (Nat.zero_le _) ?_
                  show jx_W (jm_MD_isIn, _, _, _, _, _, _) _ 0 0 0 [some _, some _, some _] [] _
                  refine jr_iload rfl rfl ?_
                  refine jr_iload rfl rfl ?_
                  refine jr_icmp_lt rfl (fun m2MDisIn_2 => ?_) (fun m2MDisIn_2 => ?_)
                  · refine jr_ic rfl ?_
                    refine jr_zret rfl rfl rfl (Nat.zero_le _) (Nat.zero_le _) ?_
                    refine jr_if_eq rfl (fun _ => ?_) (fun z => absurd (by decide) z)
                    refine jr_ic rfl ?_
                    refine jr_iret rfl rfl (Nat.zero_le _) (Nat.zero_le _) ?_
                    first
                      | exact ⟨rfl, hRel0⟩
                      | (exfalso; omega)
                      | (exfalso; simp (disch := omega) only [Int32.lt_iff_toInt_lt, Int32.le_iff_toInt_le, ← Int32.toInt_inj, Int32.reduceToInt, nI_toInt] at c3 c1RephasPerson c5RephasPerson c1JVisLength c4JVisLength m2MDisIn m5MDisIn m2MDisIn_2; done)
                      | (exfalso; simp (disch := omega) only [Int32.lt_iff_toInt_lt, Int32.le_iff_toInt_le, ← Int32.toInt_inj, Int32.reduceToInt, nI_toInt] at c3 c1RephasPerson c5RephasPerson c1JVisLength c4JVisLength m2MDisIn m5MDisIn m2MDisIn_2; omega)
                  · refine jr_iload rfl rfl ?_
                    refine jr_iload rfl rfl ?_
                    refine jr_icmp_gt rfl (fun m5MDisIn_2 => ?_) (fun m5MDisIn_2 => ?_)
                    · refine jr_ic rfl ?_
                      refine jr_zret rfl rfl rfl (Nat.zero_le _) (Nat.zero_le _) ?_
                      refine jr_if_eq rfl (fun _ => ?_) (fun z => absurd (by decide) z)
                      refine jr_ic rfl ?_
                      refine jr_iret rfl rfl (Nat.zero_le _) (Nat.zero_le _) ?_
                      first
                        | exact ⟨rfl, hRel0⟩
                        | (exfalso; omega)
                        | (exfalso; simp (disch := omega) only [Int32.lt_iff_toInt_lt, Int32.le_iff_toInt_le, ← Int32.toInt_inj, Int32.reduceToInt, nI_toInt] at c3 c1RephasPerson c5RephasPerson c1JVisLength c4JVisLength m2MDisIn m5MDisIn m2MDisIn_2 m5MDisIn_2; done)
                        | (exfalso; simp (disch := omega) only [Int32.lt_iff_toInt_lt, Int32.le_iff_toInt_le, ← Int32.toInt_inj, Int32.reduceToInt, nI_toInt] at c3 c1RephasPerson c5RephasPerson c1JVisLength c4JVisLength m2MDisIn m5MDisIn m2MDisIn_2 m5MDisIn_2; omega)
                    · refine jr_ic rfl ?_
                      refine jr_goto rfl ?_
                      refine jr_zret rfl rfl rfl (Nat.zero_le _) (Nat.zero_le _) ?_
                      refine jr_if_eq rfl (fun z => absurd z (by decide)) (fun _ => ?_)
                      refine jr_aload rfl rfl ?_
                      refine jr_cv0 (mc' := 0) (ms' := 0) rfl jm_MD_hasMonths_n jm_MD_hasMonths_f rfl rfl rfl rfl rfl rfl rfl (Nat.zero_le _) (Nat.zero_le _) ?_
                      show jx_W (jm_MD_hasMonths, _, _, _, _, _, _) _ 0 0 0 [some _] [] _
                      refine jr_aload rfl rfl ?_
                      refine jr_getR rfl rfl rfl rfl (Or.inl rfl) ?_
                      refine jr_aload rfl rfl ?_
                      refine jr_getI rfl rfl ?_
                      refine jr_iald (len := 2) rfl rfl hw.1 (by omega) ?_
                      refine jr_if_le rfl (fun m5MDhasMonths => ?_) (fun m5MDhasMonths => ?_)
                      · refine jr_ic rfl ?_
                        refine jr_zret rfl rfl rfl (Nat.zero_le _) (Nat.zero_le _) ?_
                        refine jr_if_eq rfl (fun _ => ?_) (fun z => absurd (by decide) z)
                        refine jr_ic rfl ?_
                        refine jr_iret rfl rfl (Nat.zero_le _) (Nat.zero_le _) ?_
                        first
                          | exact ⟨rfl, hRel0⟩
                          | (exfalso; omega)
                          | (exfalso; simp (disch := omega) only [Int32.lt_iff_toInt_lt, Int32.le_iff_toInt_le, ← Int32.toInt_inj, Int32.reduceToInt, nI_toInt] at c3 c1RephasPerson c5RephasPerson c1JVisLength c4JVisLength m2MDisIn m5MDisIn m2MDisIn_2 m5MDisIn_2 m5MDhasMonths; done)
                          | (exfalso; simp (disch := omega) only [Int32.lt_iff_toInt_lt, Int32.le_iff_toInt_le, ← Int32.toInt_inj, Int32.reduceToInt, nI_toInt] at c3 c1RephasPerson c5RephasPerson c1JVisLength c4JVisLength m2MDisIn m5MDisIn m2MDisIn_2 m5MDisIn_2 m5MDhasMonths; omega)
                      · refine jr_ic rfl ?_
                        refine jr_goto rfl ?_
                        refine jr_zret rfl rfl rfl (Nat.zero_le _) (Nat.zero_le _) ?_
                        refine jr_if_eq rfl (fun z => absurd z (by decide)) (fun _ => ?_)
                        refine jr_aload rfl rfl ?_
                        refine jr_iload rfl rfl ?_
                        refine jr_iload rfl rfl ?_
                        refine jr_cv2 (mc' := 0) (ms' := 0) rfl jm_MD_worthOf_n jm_MD_worthOf_f rfl rfl rfl rfl rfl rfl rfl (Nat.zero_le _) (Nat.zero_le _) ?_
                        first
                          | (exfalso; omega)
                          | (exfalso; simp (disch := omega) only [Int32.lt_iff_toInt_lt, Int32.le_iff_toInt_le, ← Int32.toInt_inj, Int32.reduceToInt, nI_toInt] at c3 c1RephasPerson c5RephasPerson c1JVisLength c4JVisLength m2MDisIn m5MDisIn m2MDisIn_2 m5MDisIn_2 m5MDhasMonths; done)
                          | (exfalso; simp (disch := omega) only [Int32.lt_iff_toInt_lt, Int32.le_iff_toInt_le, ← Int32.toInt_inj, Int32.reduceToInt, nI_toInt] at c3 c1RephasPerson c5RephasPerson c1JVisLength c4JVisLength m2MDisIn m5MDisIn m2MDisIn_2 m5MDisIn_2 m5MDhasMonths; omega)
            · refine jr_ic rfl ?_
              refine jr_goto rfl ?_
              refine jr_zret rfl rfl rfl (Nat.zero_le _) (Nat.zero_le _) ?_
              refine jr_if_ne rfl (fun _ => ?_) (fun z => absurd z (by decide))
              refine jr_aload rfl rfl ?_
              refine jr_getR rfl rfl rfl rfl (Or.inl rfl) ?_
              refine jr_aload rfl rfl ?_
              refine jr_getR rfl rfl rfl rfl (Or.inl rfl) ?_
              refine jr_cv1 (mc' := 0) (ms' := 0) rfl jm_Poll_open_n jm_Poll_open_f rfl rfl rfl rfl rfl rfl rfl (Nat.zero_le _) (Nat.zero_le _) ?_
              first
                | (exfalso; omega)
                | (exfalso; simp (disch := omega) only [Int32.lt_iff_toInt_lt, Int32.le_iff_toInt_le, ← Int32.toInt_inj, Int32.reduceToInt, nI_toInt] at c3 c1RephasPerson c5RephasPerson c1JVisLength c4JVisLength; done)
                | (exfalso; simp (disch := omega) only [Int32.lt_iff_toInt_lt, Int32.le_iff_toInt_le, ← Int32.toInt_inj, Int32.reduceToInt, nI_toInt] at c3 c1RephasPerson c5RephasPerson c1JVisLength c4JVisLength; omega)

set_option maxHeartbeats 800000 in
set_option maxRecDepth 100000 in
theorem pd_votes {d : Nat} {hc hm : jx_H} {x : Int32} (hRel : jz_Rel hc hm) : jx_Ev jm_JV_votes (d + 40) 0 0 false 0 [jv_r 10 0, jv_i x] hc (fun r hc' => jx_Ev jm_MD_votes (d + 40) 0 0 false 1 [jv_r 11 0, jv_i x] hm (fun r' hm' => r = r' ∧ jz_Rel hc' hm')) := by
  have hRel0 := hRel
  obtain ⟨b, r, ⟨hw, hG, hr2, hto, hsp, hR, hA, hL⟩, hTa, hFa, hLy, hTi, hLe, hBo, hAc, hWo⟩ := hRel
  have hb2 := hw.2.1
  have hnm := hw.2.2.1.1
  have hnm5 := hnm.2
  have km1 : (jh_I hc 7 r 0).toInt = (jz_nm hm b : Int) := by rw [hR.1]; exact (congrArg Int32.toInt hnm.1).trans (nI_toInt (by omega))
  have km2 : (jh_I hm 66 0 b).toInt = (jz_nm hm b : Int) := (congrArg Int32.toInt hnm.1).trans (nI_toInt (by omega))
  have km3 : (jh_I hm 66 0 b - 1).toInt = (jz_nm hm b : Int) - 1 := by rw [Int32.toInt_sub, km2, show (1 : Int32).toInt = 1 from rfl]; exact jn_sm (by omega) (by omega)
  have hnp := hw.2.2.1.2.1
  have hnp5 := hnp.2
  have kp1 : (jh_I hc 7 r 3).toInt = (jz_np hm b : Int) := by rw [hR.2.1]; exact (congrArg Int32.toInt hnp.1).trans (nI_toInt (by omega))
  have kp2 : (jh_I hm 67 0 b).toInt = (jz_np hm b : Int) := (congrArg Int32.toInt hnp.1).trans (nI_toInt (by omega))
  have kp3 : (jh_I hm 67 0 b - 1).toInt = (jz_np hm b : Int) - 1 := by rw [Int32.toInt_sub, kp2, show (1 : Int32).toInt = 1 from rfl]; exact jn_sm (by omega) (by omega)
  rcases jz_3 (A := jC hm b 0 0 = 0) x 0 (jz_np hm b - 1) (by omega) with hmo | ⟨hmo, p, rfl, -, hi, hi2⟩ | ⟨hmo, hi⟩
  · have hn0 : (jz_nm hm b : Int) = 0 := by rw [← km2]; exact congrArg Int32.toInt hmo
    show jx_W (jm_JV_votes, d + 40, 0, 0, false, 0, _) _ 0 0 0 [some (jv_r 10 0), some (jv_i x)] [] _
    refine jr_aload rfl rfl ?_
    refine jr_getM rfl rfl rfl rfl hto ?_
    refine jr_getI rfl rfl ?_
    refine jr_if_eq rfl (fun c3 => ?_) (fun c3 => ?_)
    · refine jr_ic rfl ?_
      refine jr_iret rfl rfl (Nat.zero_le _) (Nat.zero_le _) ?_
      show jx_W (jm_MD_votes, d + 40, 0, 0, false, 1, _) _ 0 0 0 [some _, some _] [] _
      refine jr_aload rfl rfl ?_
      refine jr_iload rfl rfl ?_
      refine jr_cv1 (mc' := 0) (ms' := 0) rfl jm_MD_isPerson_n jm_MD_isPerson_f rfl rfl rfl rfl rfl rfl rfl (Nat.zero_le _) (Nat.zero_le _) ?_
      show jx_W (jm_MD_isPerson, _, _, _, _, _, _) _ 0 0 0 [some _, some _] [] _
      refine jr_iload rfl rfl ?_
      refine jr_ic rfl ?_
      refine jr_aload rfl rfl ?_
      refine jr_cv0 (mc' := 0) (ms' := 0) rfl jm_MD_personMany_n jm_MD_personMany_f rfl rfl rfl rfl rfl rfl rfl (Nat.zero_le _) (Nat.zero_le _) ?_
      show jx_W (jm_MD_personMany, _, _, _, _, _, _) _ 0 0 0 [some _] [] _
      refine jr_aload rfl rfl ?_
      refine jr_getR rfl rfl rfl rfl (Or.inl rfl) ?_
      refine jr_aload rfl rfl ?_
      refine jr_getI rfl rfl ?_
      refine jr_iald (len := 2) rfl rfl hw.1 (by omega) ?_
      refine jr_iret rfl rfl (Nat.zero_le _) (Nat.zero_le _) ?_
      refine jr_ic rfl ?_
      refine jr_isub rfl ?_
      refine jr_cs3 (mc' := 0) (ms' := 0) rfl jm_MD_isIn_n jm_MD_isIn_f rfl rfl rfl rfl rfl (Nat.zero_le _) (Nat.zero_le _) ?_
      show jx_W (jm_MD_isIn, _, _, _, _, _, _) _ 0 0 0 [some _, some _, some _] [] _
      refine jr_iload rfl rfl ?_
      refine jr_iload rfl rfl ?_
      refine jr_icmp_lt rfl (fun m2MDisIn => ?_) (fun m2MDisIn => ?_)
      · refine jr_ic rfl ?_
        refine jr_zret rfl rfl rfl (Nat.zero_le _) (Nat.zero_le _) ?_
        refine jr_zret rfl rfl rfl (Nat.zero_le _) (Nat.zero_le _) ?_
        refine jr_if_eq rfl (fun _ => ?_) (fun z => absurd (by decide) z)
        refine jr_ic rfl ?_
        refine jr_iret rfl rfl (Nat.zero_le _) (Nat.zero_le _) ?_
        first
          | exact ⟨rfl, hRel0⟩
          | (exfalso; omega)
          | (exfalso; simp (disch := omega) only [Int32.lt_iff_toInt_lt, Int32.le_iff_toInt_le, ← Int32.toInt_inj, Int32.reduceToInt, nI_toInt] at c3 m2MDisIn; done)
          | (exfalso; simp (disch := omega) only [Int32.lt_iff_toInt_lt, Int32.le_iff_toInt_le, ← Int32.toInt_inj, Int32.reduceToInt, nI_toInt] at c3 m2MDisIn; omega)
      · refine jr_iload rfl rfl ?_
        refine jr_iload rfl rfl ?_
        refine jr_icmp_gt rfl (fun m5MDisIn => ?_) (fun m5MDisIn => ?_)
        · refine jr_ic rfl ?_
          refine jr_zret rfl rfl rfl (Nat.zero_le _) (Nat.zero_le _) ?_
          refine jr_zret rfl rfl rfl (Nat.zero_le _) (Nat.zero_le _) ?_
          refine jr_if_eq rfl (fun _ => ?_) (fun z => absurd (by decide) z)
          refine jr_ic rfl ?_
          refine jr_iret rfl rfl (Nat.zero_le _) (Nat.zero_le _) ?_
          first
            | exact ⟨rfl, hRel0⟩
            | (exfalso; omega)
            | (exfalso; simp (disch := omega) only [Int32.lt_iff_toInt_lt, Int32.le_iff_toInt_le, ← Int32.toInt_inj, Int32.reduceToInt, nI_toInt] at c3 m2MDisIn m5MDisIn; done)
            | (exfalso; simp (disch := omega) only [Int32.lt_iff_toInt_lt, Int32.le_iff_toInt_le, ← Int32.toInt_inj, Int32.reduceToInt, nI_toInt] at c3 m2MDisIn m5MDisIn; omega)
        · refine jr_ic rfl ?_
          refine jr_goto rfl ?_
          refine jr_zret rfl rfl rfl (Nat.zero_le _) (Nat.zero_le _) ?_
          refine jr_zret rfl rfl rfl (Nat.zero_le _) (Nat.zero_le _) ?_
          refine jr_if_eq rfl (fun z => absurd z (by decide)) (fun _ => ?_)
          refine jr_aload rfl rfl ?_
          refine jr_cv0 (mc' := 0) (ms' := 0) rfl jm_MD_hasMonths_n jm_MD_hasMonths_f rfl rfl rfl rfl rfl rfl rfl (Nat.zero_le _) (Nat.zero_le _) ?_
          show jx_W (jm_MD_hasMonths, _, _, _, _, _, _) _ 0 0 0 [some _] [] _
          refine jr_aload rfl rfl ?_
          refine jr_getR rfl rfl rfl rfl (Or.inl rfl) ?_
          refine jr_aload rfl rfl ?_
          refine jr_getI rfl rfl ?_
          refine jr_iald (len := 2) rfl rfl hw.1 (by omega) ?_
          refine jr_if_le rfl (fun m5MDhasMonths => ?_) (fun m5MDhasMonths => ?_)
          · refine jr_ic rfl ?_
            refine jr_zret rfl rfl rfl (Nat.zero_le _) (Nat.zero_le _) ?_
            refine jr_if_ne rfl (fun z => absurd (by decide) z) (fun _ => ?_)
            refine jr_ic rfl ?_
            refine jr_iret rfl rfl (Nat.zero_le _) (Nat.zero_le _) ?_
            first
              | exact ⟨rfl, hRel0⟩
              | (exfalso; omega)
              | (exfalso; simp (disch := omega) only [Int32.lt_iff_toInt_lt, Int32.le_iff_toInt_le, ← Int32.toInt_inj, Int32.reduceToInt, nI_toInt] at c3 m2MDisIn m5MDisIn m5MDhasMonths; done)
              | (exfalso; simp (disch := omega) only [Int32.lt_iff_toInt_lt, Int32.le_iff_toInt_le, ← Int32.toInt_inj, Int32.reduceToInt, nI_toInt] at c3 m2MDisIn m5MDisIn m5MDhasMonths; omega)
          · refine jr_ic rfl ?_
            refine jr_goto rfl ?_
            refine jr_zret rfl rfl rfl (Nat.zero_le _) (Nat.zero_le _) ?_
            refine jr_if_ne rfl (fun _ => ?_) (fun z => absurd z (by decide))
            refine jr_aload rfl rfl ?_
            refine jr_cv0 (mc' := 0) (ms' := 0) rfl jm_MD_layMay_n jm_MD_layMay_f rfl rfl rfl rfl rfl rfl rfl (Nat.zero_le _) (Nat.zero_le _) ?_
            first
              | (exfalso; omega)
              | (exfalso; simp (disch := omega) only [Int32.lt_iff_toInt_lt, Int32.le_iff_toInt_le, ← Int32.toInt_inj, Int32.reduceToInt, nI_toInt] at c3 m2MDisIn m5MDisIn m5MDhasMonths; done)
              | (exfalso; simp (disch := omega) only [Int32.lt_iff_toInt_lt, Int32.le_iff_toInt_le, ← Int32.toInt_inj, Int32.reduceToInt, nI_toInt] at c3 m2MDisIn m5MDisIn m5MDhasMonths; omega)
    · refine jr_aload rfl rfl ?_
      refine jr_getM rfl rfl rfl rfl hto ?_
      refine jr_iload rfl rfl ?_
      refine jr_cv1 (mc' := 0) (ms' := 0) rfl jm_Rep_hasPerson_n jm_Rep_hasPerson_f rfl rfl rfl rfl rfl rfl rfl (Nat.zero_le _) (Nat.zero_le _) ?_
      show jx_W (jm_Rep_hasPerson, _, _, _, _, _, _) _ 0 0 0 [some _, some _] [] _
      refine jr_iload rfl rfl ?_
      refine jr_if_lt rfl (fun c1RephasPerson => ?_) (fun c1RephasPerson => ?_)
      · refine jr_ic rfl ?_
        refine jr_zret rfl rfl rfl (Nat.zero_le _) (Nat.zero_le _) ?_
        refine jr_if_ne rfl (fun z => absurd (by decide) z) (fun _ => ?_)
        refine jr_ic rfl ?_
        refine jr_iret rfl rfl (Nat.zero_le _) (Nat.zero_le _) ?_
        show jx_W (jm_MD_votes, d + 40, 0, 0, false, 1, _) _ 0 0 0 [some _, some _] [] _
        refine jr_aload rfl rfl ?_
        refine jr_iload rfl rfl ?_
        refine jr_cv1 (mc' := 0) (ms' := 0) rfl jm_MD_isPerson_n jm_MD_isPerson_f rfl rfl rfl rfl rfl rfl rfl (Nat.zero_le _) (Nat.zero_le _) ?_
        show jx_W (jm_MD_isPerson, _, _, _, _, _, _) _ 0 0 0 [some _, some _] [] _
        refine jr_iload rfl rfl ?_
        refine jr_ic rfl ?_
        refine jr_aload rfl rfl ?_
        refine jr_cv0 (mc' := 0) (ms' := 0) rfl jm_MD_personMany_n jm_MD_personMany_f rfl rfl rfl rfl rfl rfl rfl (Nat.zero_le _) (Nat.zero_le _) ?_
        show jx_W (jm_MD_personMany, _, _, _, _, _, _) _ 0 0 0 [some _] [] _
        refine jr_aload rfl rfl ?_
        refine jr_getR rfl rfl rfl rfl (Or.inl rfl) ?_
        refine jr_aload rfl rfl ?_
        refine jr_getI rfl rfl ?_
        refine jr_iald (len := 2) rfl rfl hw.1 (by omega) ?_
        refine jr_iret rfl rfl (Nat.zero_le _) (Nat.zero_le _) ?_
        refine jr_ic rfl ?_
        refine jr_isub rfl ?_
        refine jr_cs3 (mc' := 0) (ms' := 0) rfl jm_MD_isIn_n jm_MD_isIn_f rfl rfl rfl rfl rfl (Nat.zero_le _) (Nat.zero_le _) ?_
        show jx_W (jm_MD_isIn, _, _, _, _, _, _) _ 0 0 0 [some _, some _, some _] [] _
        refine jr_iload rfl rfl ?_
        refine jr_iload rfl rfl ?_
        refine jr_icmp_lt rfl (fun m2MDisIn => ?_) (fun m2MDisIn => ?_)
        · refine jr_ic rfl ?_
          refine jr_zret rfl rfl rfl (Nat.zero_le _) (Nat.zero_le _) ?_
          refine jr_zret rfl rfl rfl (Nat.zero_le _) (Nat.zero_le _) ?_
          refine jr_if_eq rfl (fun _ => ?_) (fun z => absurd (by decide) z)
          refine jr_ic rfl ?_
          refine jr_iret rfl rfl (Nat.zero_le _) (Nat.zero_le _) ?_
          first
            | exact ⟨rfl, hRel0⟩
            | (exfalso; omega)
            | (exfalso; simp (disch := omega) only [Int32.lt_iff_toInt_lt, Int32.le_iff_toInt_le, ← Int32.toInt_inj, Int32.reduceToInt, nI_toInt] at c3 c1RephasPerson m2MDisIn; done)
            | (exfalso; simp (disch := omega) only [Int32.lt_iff_toInt_lt, Int32.le_iff_toInt_le, ← Int32.toInt_inj, Int32.reduceToInt, nI_toInt] at c3 c1RephasPerson m2MDisIn; omega)
        · refine jr_iload rfl rfl ?_
          refine jr_iload rfl rfl ?_
          refine jr_icmp_gt rfl (fun m5MDisIn => ?_) (fun m5MDisIn => ?_)
          · refine jr_ic rfl ?_
            refine jr_zret rfl rfl rfl (Nat.zero_le _) (Nat.zero_le _) ?_
            refine jr_zret rfl rfl rfl (Nat.zero_le _) (Nat.zero_le _) ?_
            refine jr_if_eq rfl (fun _ => ?_) (fun z => absurd (by decide) z)
            refine jr_ic rfl ?_
            refine jr_iret rfl rfl (Nat.zero_le _) (Nat.zero_le _) ?_
            first
              | exact ⟨rfl, hRel0⟩
              | (exfalso; omega)
              | (exfalso; simp (disch := omega) only [Int32.lt_iff_toInt_lt, Int32.le_iff_toInt_le, ← Int32.toInt_inj, Int32.reduceToInt, nI_toInt] at c3 c1RephasPerson m2MDisIn m5MDisIn; done)
              | (exfalso; simp (disch := omega) only [Int32.lt_iff_toInt_lt, Int32.le_iff_toInt_le, ← Int32.toInt_inj, Int32.reduceToInt, nI_toInt] at c3 c1RephasPerson m2MDisIn m5MDisIn; omega)
          · refine jr_ic rfl ?_
            refine jr_goto rfl ?_
            refine jr_zret rfl rfl rfl (Nat.zero_le _) (Nat.zero_le _) ?_
            refine jr_zret rfl rfl rfl (Nat.zero_le _) (Nat.zero_le _) ?_
            refine jr_if_eq rfl (fun z => absurd z (by decide)) (fun _ => ?_)
            refine jr_aload rfl rfl ?_
            refine jr_cv0 (mc' := 0) (ms' := 0) rfl jm_MD_hasMonths_n jm_MD_hasMonths_f rfl rfl rfl rfl rfl rfl rfl (Nat.zero_le _) (Nat.zero_le _) ?_
            show jx_W (jm_MD_hasMonths, _, _, _, _, _, _) _ 0 0 0 [some _] [] _
            refine jr_aload rfl rfl ?_
            refine jr_getR rfl rfl rfl rfl (Or.inl rfl) ?_
            refine jr_aload rfl rfl ?_
            refine jr_getI rfl rfl ?_
            refine jr_iald (len := 2) rfl rfl hw.1 (by omega) ?_
            refine jr_if_le rfl (fun m5MDhasMonths => ?_) (fun m5MDhasMonths => ?_)
            · refine jr_ic rfl ?_
              refine jr_zret rfl rfl rfl (Nat.zero_le _) (Nat.zero_le _) ?_
              refine jr_if_ne rfl (fun z => absurd (by decide) z) (fun _ => ?_)
              refine jr_ic rfl ?_
              refine jr_iret rfl rfl (Nat.zero_le _) (Nat.zero_le _) ?_
              first
                | exact ⟨rfl, hRel0⟩
                | (exfalso; omega)
                | (exfalso; simp (disch := omega) only [Int32.lt_iff_toInt_lt, Int32.le_iff_toInt_le, ← Int32.toInt_inj, Int32.reduceToInt, nI_toInt] at c3 c1RephasPerson m2MDisIn m5MDisIn m5MDhasMonths; done)
                | (exfalso; simp (disch := omega) only [Int32.lt_iff_toInt_lt, Int32.le_iff_toInt_le, ← Int32.toInt_inj, Int32.reduceToInt, nI_toInt] at c3 c1RephasPerson m2MDisIn m5MDisIn m5MDhasMonths; omega)
            · refine jr_ic rfl ?_
              refine jr_goto rfl ?_
              refine jr_zret rfl rfl rfl (Nat.zero_le _) (Nat.zero_le _) ?_
              refine jr_if_ne rfl (fun _ => ?_) (fun z => absurd z (by decide))
              refine jr_aload rfl rfl ?_
              refine jr_cv0 (mc' := 0) (ms' := 0) rfl jm_MD_layMay_n jm_MD_layMay_f rfl rfl rfl rfl rfl rfl rfl (Nat.zero_le _) (Nat.zero_le _) ?_
              first
                | (exfalso; omega)
                | (exfalso; simp (disch := omega) only [Int32.lt_iff_toInt_lt, Int32.le_iff_toInt_le, ← Int32.toInt_inj, Int32.reduceToInt, nI_toInt] at c3 c1RephasPerson m2MDisIn m5MDisIn m5MDhasMonths; done)
                | (exfalso; simp (disch := omega) only [Int32.lt_iff_toInt_lt, Int32.le_iff_toInt_le, ← Int32.toInt_inj, Int32.reduceToInt, nI_toInt] at c3 c1RephasPerson m2MDisIn m5MDisIn m5MDhasMonths; omega)
      · refine jr_iload rfl rfl ?_
        refine jr_aload rfl rfl ?_
        refine jr_getI rfl rfl ?_
        refine jr_icmp_ge rfl (fun c5RephasPerson => ?_) (fun c5RephasPerson => ?_)
        · refine jr_ic rfl ?_
          refine jr_zret rfl rfl rfl (Nat.zero_le _) (Nat.zero_le _) ?_
          refine jr_if_ne rfl (fun z => absurd (by decide) z) (fun _ => ?_)
          refine jr_ic rfl ?_
          refine jr_iret rfl rfl (Nat.zero_le _) (Nat.zero_le _) ?_
          show jx_W (jm_MD_votes, d + 40, 0, 0, false, 1, _) _ 0 0 0 [some _, some _] [] _
          refine jr_aload rfl rfl ?_
          refine jr_iload rfl rfl ?_
          refine jr_cv1 (mc' := 0) (ms' := 0) rfl jm_MD_isPerson_n jm_MD_isPerson_f rfl rfl rfl rfl rfl rfl rfl (Nat.zero_le _) (Nat.zero_le _) ?_
          show jx_W (jm_MD_isPerson, _, _, _, _, _, _) _ 0 0 0 [some _, some _] [] _
          refine jr_iload rfl rfl ?_
          refine jr_ic rfl ?_
          refine jr_aload rfl rfl ?_
          refine jr_cv0 (mc' := 0) (ms' := 0) rfl jm_MD_personMany_n jm_MD_personMany_f rfl rfl rfl rfl rfl rfl rfl (Nat.zero_le _) (Nat.zero_le _) ?_
          show jx_W (jm_MD_personMany, _, _, _, _, _, _) _ 0 0 0 [some _] [] _
          refine jr_aload rfl rfl ?_
          refine jr_getR rfl rfl rfl rfl (Or.inl rfl) ?_
          refine jr_aload rfl rfl ?_
          refine jr_getI rfl rfl ?_
          refine jr_iald (len := 2) rfl rfl hw.1 (by omega) ?_
          refine jr_iret rfl rfl (Nat.zero_le _) (Nat.zero_le _) ?_
          refine jr_ic rfl ?_
          refine jr_isub rfl ?_
          refine jr_cs3 (mc' := 0) (ms' := 0) rfl jm_MD_isIn_n jm_MD_isIn_f rfl rfl rfl rfl rfl (Nat.zero_le _) (Nat.zero_le _) ?_
          show jx_W (jm_MD_isIn, _, _, _, _, _, _) _ 0 0 0 [some _, some _, some _] [] _
          refine jr_iload rfl rfl ?_
          refine jr_iload rfl rfl ?_
          refine jr_icmp_lt rfl (fun m2MDisIn => ?_) (fun m2MDisIn => ?_)
          · refine jr_ic rfl ?_
            refine jr_zret rfl rfl rfl (Nat.zero_le _) (Nat.zero_le _) ?_
            refine jr_zret rfl rfl rfl (Nat.zero_le _) (Nat.zero_le _) ?_
            refine jr_if_eq rfl (fun _ => ?_) (fun z => absurd (by decide) z)
            refine jr_ic rfl ?_
            refine jr_iret rfl rfl (Nat.zero_le _) (Nat.zero_le _) ?_
            first
              | exact ⟨rfl, hRel0⟩
              | (exfalso; omega)
              | (exfalso; simp (disch := omega) only [Int32.lt_iff_toInt_lt, Int32.le_iff_toInt_le, ← Int32.toInt_inj, Int32.reduceToInt, nI_toInt] at c3 c1RephasPerson c5RephasPerson m2MDisIn; done)
              | (exfalso; simp (disch := omega) only [Int32.lt_iff_toInt_lt, Int32.le_iff_toInt_le, ← Int32.toInt_inj, Int32.reduceToInt, nI_toInt] at c3 c1RephasPerson c5RephasPerson m2MDisIn; omega)
          · refine jr_iload rfl rfl ?_
            refine jr_iload rfl rfl ?_
            refine jr_icmp_gt rfl (fun m5MDisIn => ?_) (fun m5MDisIn => ?_)
            · refine jr_ic rfl ?_
              refine jr_zret rfl rfl rfl (Nat.zero_le _) (Nat.zero_le _) ?_
              refine jr_zret rfl rfl rfl (Nat.zero_le _) (Nat.zero_le _) ?_
              refine jr_if_eq rfl (fun _ => ?_) (fun z => absurd (by decide) z)
              refine jr_ic rfl ?_
              refine jr_iret rfl rfl (Nat.zero_le _) (Nat.zero_le _) ?_
              first
                | exact ⟨rfl, hRel0⟩
                | (exfalso; omega)
                | (exfalso; simp (disch := omega) only [Int32.lt_iff_toInt_lt, Int32.le_iff_toInt_le, ← Int32.toInt_inj, Int32.reduceToInt, nI_toInt] at c3 c1RephasPerson c5RephasPerson m2MDisIn m5MDisIn; done)
                | (exfalso; simp (disch := omega) only [Int32.lt_iff_toInt_lt, Int32.le_iff_toInt_le, ← Int32.toInt_inj, Int32.reduceToInt, nI_toInt] at c3 c1RephasPerson c5RephasPerson m2MDisIn m5MDisIn; omega)
            · refine jr_ic rfl ?_
              refine jr_goto rfl ?_
              refine jr_zret rfl rfl rfl (Nat.zero_le _) (Nat.zero_le _) ?_
              refine jr_zret rfl rfl rfl (Nat.zero_le _) (Nat.zero_le _) ?_
              refine jr_if_eq rfl (fun z => absurd z (by decide)) (fun _ => ?_)
              refine jr_aload rfl rfl ?_
              refine jr_cv0 (mc' := 0) (ms' := 0) rfl jm_MD_hasMonths_n jm_MD_hasMonths_f rfl rfl rfl rfl rfl rfl rfl (Nat.zero_le _) (Nat.zero_le _) ?_
              show jx_W (jm_MD_hasMonths, _, _, _, _, _, _) _ 0 0 0 [some _] [] _
              refine jr_aload rfl rfl ?_
              refine jr_getR rfl rfl rfl rfl (Or.inl rfl) ?_
              refine jr_aload rfl rfl ?_
              refine jr_getI rfl rfl ?_
              refine jr_iald (len := 2) rfl rfl hw.1 (by omega) ?_
              refine jr_if_le rfl (fun m5MDhasMonths => ?_) (fun m5MDhasMonths => ?_)
              · refine jr_ic rfl ?_
                refine jr_zret rfl rfl rfl (Nat.zero_le _) (Nat.zero_le _) ?_
                refine jr_if_ne rfl (fun z => absurd (by decide) z) (fun _ => ?_)
                refine jr_ic rfl ?_
                refine jr_iret rfl rfl (Nat.zero_le _) (Nat.zero_le _) ?_
                first
                  | exact ⟨rfl, hRel0⟩
                  | (exfalso; omega)
                  | (exfalso; simp (disch := omega) only [Int32.lt_iff_toInt_lt, Int32.le_iff_toInt_le, ← Int32.toInt_inj, Int32.reduceToInt, nI_toInt] at c3 c1RephasPerson c5RephasPerson m2MDisIn m5MDisIn m5MDhasMonths; done)
                  | (exfalso; simp (disch := omega) only [Int32.lt_iff_toInt_lt, Int32.le_iff_toInt_le, ← Int32.toInt_inj, Int32.reduceToInt, nI_toInt] at c3 c1RephasPerson c5RephasPerson m2MDisIn m5MDisIn m5MDhasMonths; omega)
              · refine jr_ic rfl ?_
                refine jr_goto rfl ?_
                refine jr_zret rfl rfl rfl (Nat.zero_le _) (Nat.zero_le _) ?_
                refine jr_if_ne rfl (fun _ => ?_) (fun z => absurd z (by decide))
                refine jr_aload rfl rfl ?_
                refine jr_cv0 (mc' := 0) (ms' := 0) rfl jm_MD_layMay_n jm_MD_layMay_f rfl rfl rfl rfl rfl rfl rfl (Nat.zero_le _) (Nat.zero_le _) ?_
                first
                  | (exfalso; omega)
                  | (exfalso; simp (disch := omega) only [Int32.lt_iff_toInt_lt, Int32.le_iff_toInt_le, ← Int32.toInt_inj, Int32.reduceToInt, nI_toInt] at c3 c1RephasPerson c5RephasPerson m2MDisIn m5MDisIn m5MDhasMonths; done)
                  | (exfalso; simp (disch := omega) only [Int32.lt_iff_toInt_lt, Int32.le_iff_toInt_le, ← Int32.toInt_inj, Int32.reduceToInt, nI_toInt] at c3 c1RephasPerson c5RephasPerson m2MDisIn m5MDisIn m5MDhasMonths; omega)
        · refine jr_ic rfl ?_
          refine jr_goto rfl ?_
          refine jr_zret rfl rfl rfl (Nat.zero_le _) (Nat.zero_le _) ?_
          refine jr_if_ne rfl (fun _ => ?_) (fun z => absurd z (by decide))
          refine jr_aload rfl rfl ?_
          refine jr_getR rfl rfl rfl rfl (Or.inl rfl) ?_
          refine jr_aload rfl rfl ?_
          refine jr_getR rfl rfl rfl rfl (Or.inl rfl) ?_
          refine jr_cv1 (mc' := 0) (ms' := 0) rfl jm_Poll_open_n jm_Poll_open_f rfl rfl rfl rfl rfl rfl rfl (Nat.zero_le _) (Nat.zero_le _) ?_
          first
            | (exfalso; omega)
            | (exfalso; simp (disch := omega) only [Int32.lt_iff_toInt_lt, Int32.le_iff_toInt_le, ← Int32.toInt_inj, Int32.reduceToInt, nI_toInt] at c3 c1RephasPerson c5RephasPerson; done)
            | (exfalso; simp (disch := omega) only [Int32.lt_iff_toInt_lt, Int32.le_iff_toInt_le, ← Int32.toInt_inj, Int32.reduceToInt, nI_toInt] at c3 c1RephasPerson c5RephasPerson; omega)
  · have hn1 : 0 < jz_nm hm b := by
      rcases Nat.eq_zero_or_pos (jz_nm hm b) with e | e
      · rw [e] at hnm; exact absurd hnm.1 hmo
      · exact e
    show jx_W (jm_JV_votes, d + 40, 0, 0, false, 0, _) _ 0 0 0 [some (jv_r 10 0), some (jv_i (nI p))] [] _
    refine jr_aload rfl rfl ?_
    refine jr_getM rfl rfl rfl rfl hto ?_
    refine jr_getI rfl rfl ?_
    refine jr_if_eq rfl (fun c3 => ?_) (fun c3 => ?_)
    · refine jr_ic rfl ?_
      refine jr_iret rfl rfl (Nat.zero_le _) (Nat.zero_le _) ?_
      show jx_W (jm_MD_votes, d + 40, 0, 0, false, 1, _) _ 0 0 0 [some _, some _] [] _
      refine jr_aload rfl rfl ?_
      refine jr_iload rfl rfl ?_
      refine jr_cv1 (mc' := 0) (ms' := 0) rfl jm_MD_isPerson_n jm_MD_isPerson_f rfl rfl rfl rfl rfl rfl rfl (Nat.zero_le _) (Nat.zero_le _) ?_
      show jx_W (jm_MD_isPerson, _, _, _, _, _, _) _ 0 0 0 [some _, some _] [] _
      refine jr_iload rfl rfl ?_
      refine jr_ic rfl ?_
      refine jr_aload rfl rfl ?_
      refine jr_cv0 (mc' := 0) (ms' := 0) rfl jm_MD_personMany_n jm_MD_personMany_f rfl rfl rfl rfl rfl rfl rfl (Nat.zero_le _) (Nat.zero_le _) ?_
      show jx_W (jm_MD_personMany, _, _, _, _, _, _) _ 0 0 0 [some _] [] _
      refine jr_aload rfl rfl ?_
      refine jr_getR rfl rfl rfl rfl (Or.inl rfl) ?_
      refine jr_aload rfl rfl ?_
      refine jr_getI rfl rfl ?_
      refine jr_iald (len := 2) rfl rfl hw.1 (by omega) ?_
      refine jr_iret rfl rfl (Nat.zero_le _) (Nat.zero_le _) ?_
      refine jr_ic rfl ?_
      refine jr_isub rfl ?_
      refine jr_cs3 (mc' := 0) (ms' := 0) rfl jm_MD_isIn_n jm_MD_isIn_f rfl rfl rfl rfl rfl (Nat.zero_le _) (Nat.zero_le _) ?_
      show jx_W (jm_MD_isIn, _, _, _, _, _, _) _ 0 0 0 [some _, some _, some _] [] _
      refine jr_iload rfl rfl ?_
      refine jr_iload rfl rfl ?_
      refine jr_icmp_lt rfl (fun m2MDisIn => ?_) (fun m2MDisIn => ?_)
      · refine jr_ic rfl ?_
        refine jr_zret rfl rfl rfl (Nat.zero_le _) (Nat.zero_le _) ?_
        refine jr_zret rfl rfl rfl (Nat.zero_le _) (Nat.zero_le _) ?_
        refine jr_if_eq rfl (fun _ => ?_) (fun z => absurd (by decide) z)
        refine jr_ic rfl ?_
        refine jr_iret rfl rfl (Nat.zero_le _) (Nat.zero_le _) ?_
        first
          | exact ⟨rfl, (jz_Rel_p hRel0 hS4)⟩
          | exact ⟨rfl, hRel0⟩
          | (exfalso; omega)
          | (exfalso; simp (disch := omega) only [Int32.lt_iff_toInt_lt, Int32.le_iff_toInt_le, ← Int32.toInt_inj, Int32.reduceToInt, nI_toInt] at c3 m2MDisIn; done)
          | (exfalso; simp (disch := omega) only [Int32.lt_iff_toInt_lt, Int32.le_iff_toInt_le, ← Int32.toInt_inj, Int32.reduceToInt, nI_toInt] at c3 m2MDisIn; omega)
      · refine jr_iload rfl rfl ?_
        refine jr_iload rfl rfl ?_
        refine jr_icmp_gt rfl (fun m5MDisIn => ?_) (fun m5MDisIn => ?_)
        · refine jr_ic rfl ?_
          refine jr_zret rfl rfl rfl (Nat.zero_le _) (Nat.zero_le _) ?_
          refine jr_zret rfl rfl rfl (Nat.zero_le _) (Nat.zero_le _) ?_
          refine jr_if_eq rfl (fun _ => ?_) (fun z => absurd (by decide) z)
          refine jr_ic rfl ?_
          refine jr_iret rfl rfl (Nat.zero_le _) (Nat.zero_le _) ?_
          first
            | exact ⟨rfl, (jz_Rel_p hRel0 hS4)⟩
            | exact ⟨rfl, hRel0⟩
            | (exfalso; omega)
            | (exfalso; simp (disch := omega) only [Int32.lt_iff_toInt_lt, Int32.le_iff_toInt_le, ← Int32.toInt_inj, Int32.reduceToInt, nI_toInt] at c3 m2MDisIn m5MDisIn; done)
            | (exfalso; simp (disch := omega) only [Int32.lt_iff_toInt_lt, Int32.le_iff_toInt_le, ← Int32.toInt_inj, Int32.reduceToInt, nI_toInt] at c3 m2MDisIn m5MDisIn; omega)
        · refine jr_ic rfl ?_
          refine jr_goto rfl ?_
          refine jr_zret rfl rfl rfl (Nat.zero_le _) (Nat.zero_le _) ?_
          refine jr_zret rfl rfl rfl (Nat.zero_le _) (Nat.zero_le _) ?_
          refine jr_if_eq rfl (fun z => absurd z (by decide)) (fun _ => ?_)
          refine jr_aload rfl rfl ?_
          refine jr_cv0 (mc' := 0) (ms' := 0) rfl jm_MD_hasMonths_n jm_MD_hasMonths_f rfl rfl rfl rfl rfl rfl rfl (Nat.zero_le _) (Nat.zero_le _) ?_
          show jx_W (jm_MD_hasMonths, _, _, _, _, _, _) _ 0 0 0 [some _] [] _
          refine jr_aload rfl rfl ?_
          refine jr_getR rfl rfl rfl rfl (Or.inl rfl) ?_
          refine jr_aload rfl rfl ?_
          refine jr_getI rfl rfl ?_
          refine jr_iald (len := 2) rfl rfl hw.1 (by omega) ?_
          refine jr_if_le rfl (fun m5MDhasMonths => ?_) (fun m5MDhasMonths => ?_)
          · refine jr_ic rfl ?_
            refine jr_zret rfl rfl rfl (Nat.zero_le _) (Nat.zero_le _) ?_
            refine jr_if_ne rfl (fun z => absurd (by decide) z) (fun _ => ?_)
            refine jr_ic rfl ?_
            refine jr_iret rfl rfl (Nat.zero_le _) (Nat.zero_le _) ?_
            first
              | exact ⟨rfl, (jz_Rel_p hRel0 hS4)⟩
              | exact ⟨rfl, hRel0⟩
              | (exfalso; omega)
              | (exfalso; simp (disch := omega) only [Int32.lt_iff_toInt_lt, Int32.le_iff_toInt_le, ← Int32.toInt_inj, Int32.reduceToInt, nI_toInt] at c3 m2MDisIn m5MDisIn m5MDhasMonths; done)
              | (exfalso; simp (disch := omega) only [Int32.lt_iff_toInt_lt, Int32.le_iff_toInt_le, ← Int32.toInt_inj, Int32.reduceToInt, nI_toInt] at c3 m2MDisIn m5MDisIn m5MDhasMonths; omega)
          · refine jr_ic rfl ?_
            refine jr_goto rfl ?_
            refine jr_zret rfl rfl rfl (Nat.zero_le _) (Nat.zero_le _) ?_
            refine jr_if_ne rfl (fun _ => ?_) (fun z => absurd z (by decide))
            refine jr_aload rfl rfl ?_
            refine jr_cv0 (mc' := 0) (ms' := 0) rfl jm_MD_layMay_n jm_MD_layMay_f rfl rfl rfl rfl rfl rfl rfl (Nat.zero_le _) (Nat.zero_le _) ?_
            refine eB_layMay hw hmo (fun S3 hS3 hM3 => ?_)
            refine jr_aload rfl rfl ?_
            refine jr_iload rfl rfl ?_
            refine jr_cv1 (mc' := 0) (ms' := 0) rfl jm_MD_voteOf_n jm_MD_voteOf_f rfl rfl rfl rfl rfl rfl rfl (Nat.zero_le _) (Nat.zero_le _) ?_
            refine eS_voteOf hw hS3 hmo (by omega) hM3 (fun S4 hS4 f4 => ?_)
            refine jr_iret rfl rfl (Nat.zero_le _) (Nat.zero_le _) ?_
            first
              | exact ⟨rfl, (jz_Rel_p hRel0 hS4)⟩
              | exact ⟨rfl, hRel0⟩
              | (exfalso; omega)
              | (exfalso; simp (disch := omega) only [Int32.lt_iff_toInt_lt, Int32.le_iff_toInt_le, ← Int32.toInt_inj, Int32.reduceToInt, nI_toInt] at c3 m2MDisIn m5MDisIn m5MDhasMonths; done)
              | (exfalso; simp (disch := omega) only [Int32.lt_iff_toInt_lt, Int32.le_iff_toInt_le, ← Int32.toInt_inj, Int32.reduceToInt, nI_toInt] at c3 m2MDisIn m5MDisIn m5MDhasMonths; omega)
    · refine jr_aload rfl rfl ?_
      refine jr_getM rfl rfl rfl rfl hto ?_
      refine jr_iload rfl rfl ?_
      refine jr_cv1 (mc' := 0) (ms' := 0) rfl jm_Rep_hasPerson_n jm_Rep_hasPerson_f rfl rfl rfl rfl rfl rfl rfl (Nat.zero_le _) (Nat.zero_le _) ?_
      show jx_W (jm_Rep_hasPerson, _, _, _, _, _, _) _ 0 0 0 [some _, some _] [] _
      refine jr_iload rfl rfl ?_
      refine jr_if_lt rfl (fun c1RephasPerson => ?_) (fun c1RephasPerson => ?_)
      · refine jr_ic rfl ?_
        refine jr_zret rfl rfl rfl (Nat.zero_le _) (Nat.zero_le _) ?_
        refine jr_if_ne rfl (fun z => absurd (by decide) z) (fun _ => ?_)
        refine jr_ic rfl ?_
        refine jr_iret rfl rfl (Nat.zero_le _) (Nat.zero_le _) ?_
        show jx_W (jm_MD_votes, d + 40, 0, 0, false, 1, _) _ 0 0 0 [some _, some _] [] _
        refine jr_aload rfl rfl ?_
        refine jr_iload rfl rfl ?_
        refine jr_cv1 (mc' := 0) (ms' := 0) rfl jm_MD_isPerson_n jm_MD_isPerson_f rfl rfl rfl rfl rfl rfl rfl (Nat.zero_le _) (Nat.zero_le _) ?_
        show jx_W (jm_MD_isPerson, _, _, _, _, _, _) _ 0 0 0 [some _, some _] [] _
        refine jr_iload rfl rfl ?_
        refine jr_ic rfl ?_
        refine jr_aload rfl rfl ?_
        refine jr_cv0 (mc' := 0) (ms' := 0) rfl jm_MD_personMany_n jm_MD_personMany_f rfl rfl rfl rfl rfl rfl rfl (Nat.zero_le _) (Nat.zero_le _) ?_
        show jx_W (jm_MD_personMany, _, _, _, _, _, _) _ 0 0 0 [some _] [] _
        refine jr_aload rfl rfl ?_
        refine jr_getR rfl rfl rfl rfl (Or.inl rfl) ?_
        refine jr_aload rfl rfl ?_
        refine jr_getI rfl rfl ?_
        refine jr_iald (len := 2) rfl rfl hw.1 (by omega) ?_
        refine jr_iret rfl rfl (Nat.zero_le _) (Nat.zero_le _) ?_
        refine jr_ic rfl ?_
        refine jr_isub rfl ?_
        refine jr_cs3 (mc' := 0) (ms' := 0) rfl jm_MD_isIn_n jm_MD_isIn_f rfl rfl rfl rfl rfl (Nat.zero_le _) (Nat.zero_le _) ?_
        show jx_W (jm_MD_isIn, _, _, _, _, _, _) _ 0 0 0 [some _, some _, some _] [] _
        refine jr_iload rfl rfl ?_
        refine jr_iload rfl rfl ?_
        refine jr_icmp_lt rfl (fun m2MDisIn => ?_) (fun m2MDisIn => ?_)
        · refine jr_ic rfl ?_
          refine jr_zret rfl rfl rfl (Nat.zero_le _) (Nat.zero_le _) ?_
          refine jr_zret rfl rfl rfl (Nat.zero_le _) (Nat.zero_le _) ?_
          refine jr_if_eq rfl (fun _ => ?_) (fun z => absurd (by decide) z)
          refine jr_ic rfl ?_
          refine jr_iret rfl rfl (Nat.zero_le _) (Nat.zero_le _) ?_
          first
            | exact ⟨rfl, (jz_Rel_p hRel0 hS4)⟩
            | exact ⟨rfl, hRel0⟩
            | (exfalso; omega)
            | (exfalso; simp (disch := omega) only [Int32.lt_iff_toInt_lt, Int32.le_iff_toInt_le, ← Int32.toInt_inj, Int32.reduceToInt, nI_toInt] at c3 c1RephasPerson m2MDisIn; done)
            | (exfalso; simp (disch := omega) only [Int32.lt_iff_toInt_lt, Int32.le_iff_toInt_le, ← Int32.toInt_inj, Int32.reduceToInt, nI_toInt] at c3 c1RephasPerson m2MDisIn; omega)
        · refine jr_iload rfl rfl ?_
          refine jr_iload rfl rfl ?_
          refine jr_icmp_gt rfl (fun m5MDisIn => ?_) (fun m5MDisIn => ?_)
          · refine jr_ic rfl ?_
            refine jr_zret rfl rfl rfl (Nat.zero_le _) (Nat.zero_le _) ?_
            refine jr_zret rfl rfl rfl (Nat.zero_le _) (Nat.zero_le _) ?_
            refine jr_if_eq rfl (fun _ => ?_) (fun z => absurd (by decide) z)
            refine jr_ic rfl ?_
            refine jr_iret rfl rfl (Nat.zero_le _) (Nat.zero_le _) ?_
            first
              | exact ⟨rfl, (jz_Rel_p hRel0 hS4)⟩
              | exact ⟨rfl, hRel0⟩
              | (exfalso; omega)
              | (exfalso; simp (disch := omega) only [Int32.lt_iff_toInt_lt, Int32.le_iff_toInt_le, ← Int32.toInt_inj, Int32.reduceToInt, nI_toInt] at c3 c1RephasPerson m2MDisIn m5MDisIn; done)
              | (exfalso; simp (disch := omega) only [Int32.lt_iff_toInt_lt, Int32.le_iff_toInt_le, ← Int32.toInt_inj, Int32.reduceToInt, nI_toInt] at c3 c1RephasPerson m2MDisIn m5MDisIn; omega)
          · refine jr_ic rfl ?_
            refine jr_goto rfl ?_
            refine jr_zret rfl rfl rfl (Nat.zero_le _) (Nat.zero_le _) ?_
            refine jr_zret rfl rfl rfl (Nat.zero_le _) (Nat.zero_le _) ?_
            refine jr_if_eq rfl (fun z => absurd z (by decide)) (fun _ => ?_)
            refine jr_aload rfl rfl ?_
            refine jr_cv0 (mc' := 0) (ms' := 0) rfl jm_MD_hasMonths_n jm_MD_hasMonths_f rfl rfl rfl rfl rfl rfl rfl (Nat.zero_le _) (Nat.zero_le _) ?_
            show jx_W (jm_MD_hasMonths, _, _, _, _, _, _) _ 0 0 0 [some _] [] _
            refine jr_aload rfl rfl ?_
            refine jr_getR rfl rfl rfl rfl (Or.inl rfl) ?_
            refine jr_aload rfl rfl ?_
            refine jr_getI rfl rfl ?_
            refine jr_iald (len := 2) rfl rfl hw.1 (by omega) ?_
            refine jr_if_le rfl (fun m5MDhasMonths => ?_) (fun m5MDhasMonths => ?_)
            · refine jr_ic rfl ?_
              refine jr_zret rfl rfl rfl (Nat.zero_le _) (Nat.zero_le _) ?_
              refine jr_if_ne rfl (fun z => absurd (by decide) z) (fun _ => ?_)
              refine jr_ic rfl ?_
              refine jr_iret rfl rfl (Nat.zero_le _) (Nat.zero_le _) ?_
              first
                | exact ⟨rfl, (jz_Rel_p hRel0 hS4)⟩
                | exact ⟨rfl, hRel0⟩
                | (exfalso; omega)
                | (exfalso; simp (disch := omega) only [Int32.lt_iff_toInt_lt, Int32.le_iff_toInt_le, ← Int32.toInt_inj, Int32.reduceToInt, nI_toInt] at c3 c1RephasPerson m2MDisIn m5MDisIn m5MDhasMonths; done)
                | (exfalso; simp (disch := omega) only [Int32.lt_iff_toInt_lt, Int32.le_iff_toInt_le, ← Int32.toInt_inj, Int32.reduceToInt, nI_toInt] at c3 c1RephasPerson m2MDisIn m5MDisIn m5MDhasMonths; omega)
            · refine jr_ic rfl ?_
              refine jr_goto rfl ?_
              refine jr_zret rfl rfl rfl (Nat.zero_le _) (Nat.zero_le _) ?_
              refine jr_if_ne rfl (fun _ => ?_) (fun z => absurd z (by decide))
              refine jr_aload rfl rfl ?_
              refine jr_cv0 (mc' := 0) (ms' := 0) rfl jm_MD_layMay_n jm_MD_layMay_f rfl rfl rfl rfl rfl rfl rfl (Nat.zero_le _) (Nat.zero_le _) ?_
              refine eB_layMay hw hmo (fun S3 hS3 hM3 => ?_)
              refine jr_aload rfl rfl ?_
              refine jr_iload rfl rfl ?_
              refine jr_cv1 (mc' := 0) (ms' := 0) rfl jm_MD_voteOf_n jm_MD_voteOf_f rfl rfl rfl rfl rfl rfl rfl (Nat.zero_le _) (Nat.zero_le _) ?_
              refine eS_voteOf hw hS3 hmo (by omega) hM3 (fun S4 hS4 f4 => ?_)
              refine jr_iret rfl rfl (Nat.zero_le _) (Nat.zero_le _) ?_
              first
                | exact ⟨rfl, (jz_Rel_p hRel0 hS4)⟩
                | exact ⟨rfl, hRel0⟩
                | (exfalso; omega)
                | (exfalso; simp (disch := omega) only [Int32.lt_iff_toInt_lt, Int32.le_iff_toInt_le, ← Int32.toInt_inj, Int32.reduceToInt, nI_toInt] at c3 c1RephasPerson m2MDisIn m5MDisIn m5MDhasMonths; done)
                | (exfalso; simp (disch := omega) only [Int32.lt_iff_toInt_lt, Int32.le_iff_toInt_le, ← Int32.toInt_inj, Int32.reduceToInt, nI_toInt] at c3 c1RephasPerson m2MDisIn m5MDisIn m5MDhasMonths; omega)
      · refine jr_iload rfl rfl ?_
        refine jr_aload rfl rfl ?_
        refine jr_getI rfl rfl ?_
        refine jr_icmp_ge rfl (fun c5RephasPerson => ?_) (fun c5RephasPerson => ?_)
        · refine jr_ic rfl ?_
          refine jr_zret rfl rfl rfl (Nat.zero_le _) (Nat.zero_le _) ?_
          refine jr_if_ne rfl (fun z => absurd (by decide) z) (fun _ => ?_)
          refine jr_ic rfl ?_
          refine jr_iret rfl rfl (Nat.zero_le _) (Nat.zero_le _) ?_
          show jx_W (jm_MD_votes, d + 40, 0, 0, false, 1, _) _ 0 0 0 [some _, some _] [] _
          refine jr_aload rfl rfl ?_
          refine jr_iload rfl rfl ?_
          refine jr_cv1 (mc' := 0) (ms' := 0) rfl jm_MD_isPerson_n jm_MD_isPerson_f rfl rfl rfl rfl rfl rfl rfl (Nat.zero_le _) (Nat.zero_le _) ?_
          show jx_W (jm_MD_isPerson, _, _, _, _, _, _) _ 0 0 0 [some _, some _] [] _
          refine jr_iload rfl rfl ?_
          refine jr_ic rfl ?_
          refine jr_aload rfl rfl ?_
          refine jr_cv0 (mc' := 0) (ms' := 0) rfl jm_MD_personMany_n jm_MD_personMany_f rfl rfl rfl rfl rfl rfl rfl (Nat.zero_le _) (Nat.zero_le _) ?_
          show jx_W (jm_MD_personMany, _, _, _, _, _, _) _ 0 0 0 [some _] [] _
          refine jr_aload rfl rfl ?_
          refine jr_getR rfl rfl rfl rfl (Or.inl rfl) ?_
          refine jr_aload rfl rfl ?_
          refine jr_getI rfl rfl ?_
          refine jr_iald (len := 2) rfl rfl hw.1 (by omega) ?_
          refine jr_iret rfl rfl (Nat.zero_le _) (Nat.zero_le _) ?_
          refine jr_ic rfl ?_
          refine jr_isub rfl ?_
          refine jr_cs3 (mc' := 0) (ms' := 0) rfl jm_MD_isIn_n jm_MD_isIn_f rfl rfl rfl rfl rfl (Nat.zero_le _) (Nat.zero_le _) ?_
          show jx_W (jm_MD_isIn, _, _, _, _, _, _) _ 0 0 0 [some _, some _, some _] [] _
          refine jr_iload rfl rfl ?_
          refine jr_iload rfl rfl ?_
          refine jr_icmp_lt rfl (fun m2MDisIn => ?_) (fun m2MDisIn => ?_)
          · refine jr_ic rfl ?_
            refine jr_zret rfl rfl rfl (Nat.zero_le _) (Nat.zero_le _) ?_
            refine jr_zret rfl rfl rfl (Nat.zero_le _) (Nat.zero_le _) ?_
            refine jr_if_eq rfl (fun _ => ?_) (fun z => absurd (by decide) z)
            refine jr_ic rfl ?_
            refine jr_iret rfl rfl (Nat.zero_le _) (Nat.zero_le _) ?_
            first
              | exact ⟨rfl, (jz_Rel_p hRel0 hS4)⟩
              | exact ⟨rfl, hRel0⟩
              | (exfalso; omega)
              | (exfalso; simp (disch := omega) only [Int32.lt_iff_toInt_lt, Int32.le_iff_toInt_le, ← Int32.toInt_inj, Int32.reduceToInt, nI_toInt] at c3 c1RephasPerson c5RephasPerson m2MDisIn; done)
              | (exfalso; simp (disch := omega) only [Int32.lt_iff_toInt_lt, Int32.le_iff_toInt_le, ← Int32.toInt_inj, Int32.reduceToInt, nI_toInt] at c3 c1RephasPerson c5RephasPerson m2MDisIn; omega)
          · refine jr_iload rfl rfl ?_
            refine jr_iload rfl rfl ?_
            refine jr_icmp_gt rfl (fun m5MDisIn => ?_) (fun m5MDisIn => ?_)
            · refine jr_ic rfl ?_
              refine jr_zret rfl rfl rfl (Nat.zero_le _) (Nat.zero_le _) ?_
              refine jr_zret rfl rfl rfl (Nat.zero_le _) (Nat.zero_le _) ?_
              refine jr_if_eq rfl (fun _ => ?_) (fun z => absurd (by decide) z)
              refine jr_ic rfl ?_
              refine jr_iret rfl rfl (Nat.zero_le _) (Nat.zero_le _) ?_
              first
                | exact ⟨rfl, (jz_Rel_p hRel0 hS4)⟩
                | exact ⟨rfl, hRel0⟩
                | (exfalso; omega)
                | (exfalso; simp (disch := omega) only [Int32.lt_iff_toInt_lt, Int32.le_iff_toInt_le, ← Int32.toInt_inj, Int32.reduceToInt, nI_toInt] at c3 c1RephasPerson c5RephasPerson m2MDisIn m5MDisIn; done)
                | (exfalso; simp (disch := omega) only [Int32.lt_iff_toInt_lt, Int32.le_iff_toInt_le, ← Int32.toInt_inj, Int32.reduceToInt, nI_toInt] at c3 c1RephasPerson c5RephasPerson m2MDisIn m5MDisIn; omega)
            · refine jr_ic rfl ?_
              refine jr_goto rfl ?_
              refine jr_zret rfl rfl rfl (Nat.zero_le _) (Nat.zero_le _) ?_
              refine jr_zret rfl rfl rfl (Nat.zero_le _) (Nat.zero_le _) ?_
              refine jr_if_eq rfl (fun z => absurd z (by decide)) (fun _ => ?_)
              refine jr_aload rfl rfl ?_
              refine jr_cv0 (mc' := 0) (ms' := 0) rfl jm_MD_hasMonths_n jm_MD_hasMonths_f rfl rfl rfl rfl rfl rfl rfl (Nat.zero_le _) (Nat.zero_le _) ?_
              show jx_W (jm_MD_hasMonths, _, _, _, _, _, _) _ 0 0 0 [some _] [] _
              refine jr_aload rfl rfl ?_
              refine jr_getR rfl rfl rfl rfl (Or.inl rfl) ?_
              refine jr_aload rfl rfl ?_
              refine jr_getI rfl rfl ?_
              refine jr_iald (len := 2) rfl rfl hw.1 (by omega) ?_
              refine jr_if_le rfl (fun m5MDhasMonths => ?_) (fun m5MDhasMonths => ?_)
              · refine jr_ic rfl ?_
                refine jr_zret rfl rfl rfl (Nat.zero_le _) (Nat.zero_le _) ?_
                refine jr_if_ne rfl (fun z => absurd (by decide) z) (fun _ => ?_)
                refine jr_ic rfl ?_
                refine jr_iret rfl rfl (Nat.zero_le _) (Nat.zero_le _) ?_
                first
                  | exact ⟨rfl, (jz_Rel_p hRel0 hS4)⟩
                  | exact ⟨rfl, hRel0⟩
                  | (exfalso; omega)
                  | (exfalso; simp (disch := omega) only [Int32.lt_iff_toInt_lt, Int32.le_iff_toInt_le, ← Int32.toInt_inj, Int32.reduceToInt, nI_toInt] at c3 c1RephasPerson c5RephasPerson m2MDisIn m5MDisIn m5MDhasMonths; done)
                  | (exfalso; simp (disch := omega) only [Int32.lt_iff_toInt_lt, Int32.le_iff_toInt_le, ← Int32.toInt_inj, Int32.reduceToInt, nI_toInt] at c3 c1RephasPerson c5RephasPerson m2MDisIn m5MDisIn m5MDhasMonths; omega)
              · refine jr_ic rfl ?_
                refine jr_goto rfl ?_
                refine jr_zret rfl rfl rfl (Nat.zero_le _) (Nat.zero_le _) ?_
                refine jr_if_ne rfl (fun _ => ?_) (fun z => absurd z (by decide))
                refine jr_aload rfl rfl ?_
                refine jr_cv0 (mc' := 0) (ms' := 0) rfl jm_MD_layMay_n jm_MD_layMay_f rfl rfl rfl rfl rfl rfl rfl (Nat.zero_le _) (Nat.zero_le _) ?_
                refine eB_layMay hw hmo (fun S3 hS3 hM3 => ?_)
                refine jr_aload rfl rfl ?_
                refine jr_iload rfl rfl ?_
                refine jr_cv1 (mc' := 0) (ms' := 0) rfl jm_MD_voteOf_n jm_MD_voteOf_f rfl rfl rfl rfl rfl rfl rfl (Nat.zero_le _) (Nat.zero_le _) ?_
                refine eS_voteOf hw hS3 hmo (by omega) hM3 (fun S4 hS4 f4 => ?_)
                refine jr_iret rfl rfl (Nat.zero_le _) (Nat.zero_le _) ?_
                first
                  | exact ⟨rfl, (jz_Rel_p hRel0 hS4)⟩
                  | exact ⟨rfl, hRel0⟩
                  | (exfalso; omega)
                  | (exfalso; simp (disch := omega) only [Int32.lt_iff_toInt_lt, Int32.le_iff_toInt_le, ← Int32.toInt_inj, Int32.reduceToInt, nI_toInt] at c3 c1RephasPerson c5RephasPerson m2MDisIn m5MDisIn m5MDhasMonths; done)
                  | (exfalso; simp (disch := omega) only [Int32.lt_iff_toInt_lt, Int32.le_iff_toInt_le, ← Int32.toInt_inj, Int32.reduceToInt, nI_toInt] at c3 c1RephasPerson c5RephasPerson m2MDisIn m5MDisIn m5MDhasMonths; omega)
        · refine jr_ic rfl ?_
          refine jr_goto rfl ?_
          refine jr_zret rfl rfl rfl (Nat.zero_le _) (Nat.zero_le _) ?_
          refine jr_if_ne rfl (fun _ => ?_) (fun z => absurd z (by decide))
          refine jr_aload rfl rfl ?_
          refine jr_getR rfl rfl rfl rfl (Or.inl rfl) ?_
          refine jr_aload rfl rfl ?_
          refine jr_getR rfl rfl rfl rfl (Or.inl rfl) ?_
          refine jr_cv1 (mc' := 0) (ms' := 0) rfl jm_Poll_open_n jm_Poll_open_f rfl rfl rfl rfl rfl rfl rfl (Nat.zero_le _) (Nat.zero_le _) ?_
          refine eB_open hw hA hR hmo (fun S1 hP1 hM1 => ?_)
          refine jr_aload rfl rfl ?_
          refine jr_getR rfl rfl rfl rfl (Or.inl rfl) ?_
          refine jr_iload rfl rfl ?_
          refine jr_cv1 (mc' := 0) (ms' := 0) rfl jm_Poll_voteOf_n jm_Poll_voteOf_f rfl rfl rfl rfl rfl rfl rfl (Nat.zero_le _) (Nat.zero_le _) ?_
          refine ev_Poll_voteOf hw hA hR hmo hP1 hM1 (by omega) (fun S2 f2 => ?_)
          refine jr_iret rfl rfl (Nat.zero_le _) (Nat.zero_le _) ?_
          show jx_W (jm_MD_votes, d + 40, 0, 0, false, 1, _) _ 0 0 0 [some _, some _] [] _
          refine jr_aload rfl rfl ?_
          refine jr_iload rfl rfl ?_
          refine jr_cv1 (mc' := 0) (ms' := 0) rfl jm_MD_isPerson_n jm_MD_isPerson_f rfl rfl rfl rfl rfl rfl rfl (Nat.zero_le _) (Nat.zero_le _) ?_
          show jx_W (jm_MD_isPerson, _, _, _, _, _, _) _ 0 0 0 [some _, some _] [] _
          refine jr_iload rfl rfl ?_
          refine jr_ic rfl ?_
          refine jr_aload rfl rfl ?_
          refine jr_cv0 (mc' := 0) (ms' := 0) rfl jm_MD_personMany_n jm_MD_personMany_f rfl rfl rfl rfl rfl rfl rfl (Nat.zero_le _) (Nat.zero_le _) ?_
          show jx_W (jm_MD_personMany, _, _, _, _, _, _) _ 0 0 0 [some _] [] _
          refine jr_aload rfl rfl ?_
          refine jr_getR rfl rfl rfl rfl (Or.inl rfl) ?_
          refine jr_aload rfl rfl ?_
          refine jr_getI rfl rfl ?_
          refine jr_iald (len := 2) rfl rfl hw.1 (by omega) ?_
          refine jr_iret rfl rfl (Nat.zero_le _) (Nat.zero_le _) ?_
          refine jr_ic rfl ?_
          refine jr_isub rfl ?_
          refine jr_cs3 (mc' := 0) (ms' := 0) rfl jm_MD_isIn_n jm_MD_isIn_f rfl rfl rfl rfl rfl (Nat.zero_le _) (Nat.zero_le _) ?_
          show jx_W (jm_MD_isIn, _, _, _, _, _, _) _ 0 0 0 [some _, some _, some _] [] _
          refine jr_iload rfl rfl ?_
          refine jr_iload rfl rfl ?_
          refine jr_icmp_lt rfl (fun m2MDisIn => ?_) (fun m2MDisIn => ?_)
          · refine jr_ic rfl ?_
            refine jr_zret rfl rfl rfl (Nat.zero_le _) (Nat.zero_le _) ?_
            refine jr_zret rfl rfl rfl (Nat.zero_le _) (Nat.zero_le _) ?_
            refine jr_if_eq rfl (fun _ => ?_) (fun z => absurd (by decide) z)
            refine jr_ic rfl ?_
            refine jr_iret rfl rfl (Nat.zero_le _) (Nat.zero_le _) ?_
            first
              | exact ⟨rfl, (jz_Rel_p hRel0 hS4)⟩
              | exact ⟨rfl, hRel0⟩
              | (exfalso; omega)
              | (exfalso; simp (disch := omega) only [Int32.lt_iff_toInt_lt, Int32.le_iff_toInt_le, ← Int32.toInt_inj, Int32.reduceToInt, nI_toInt] at c3 c1RephasPerson c5RephasPerson m2MDisIn; done)
              | (exfalso; simp (disch := omega) only [Int32.lt_iff_toInt_lt, Int32.le_iff_toInt_le, ← Int32.toInt_inj, Int32.reduceToInt, nI_toInt] at c3 c1RephasPerson c5RephasPerson m2MDisIn; omega)
          · refine jr_iload rfl rfl ?_
            refine jr_iload rfl rfl ?_
            refine jr_icmp_gt rfl (fun m5MDisIn => ?_) (fun m5MDisIn => ?_)
            · refine jr_ic rfl ?_
              refine jr_zret rfl rfl rfl (Nat.zero_le _) (Nat.zero_le _) ?_
              refine jr_zret rfl rfl rfl (Nat.zero_le _) (Nat.zero_le _) ?_
              refine jr_if_eq rfl (fun _ => ?_) (fun z => absurd (by decide) z)
              refine jr_ic rfl ?_
              refine jr_iret rfl rfl (Nat.zero_le _) (Nat.zero_le _) ?_
              first
                | exact ⟨rfl, (jz_Rel_p hRel0 hS4)⟩
                | exact ⟨rfl, hRel0⟩
                | (exfalso; omega)
                | (exfalso; simp (disch := omega) only [Int32.lt_iff_toInt_lt, Int32.le_iff_toInt_le, ← Int32.toInt_inj, Int32.reduceToInt, nI_toInt] at c3 c1RephasPerson c5RephasPerson m2MDisIn m5MDisIn; done)
                | (exfalso; simp (disch := omega) only [Int32.lt_iff_toInt_lt, Int32.le_iff_toInt_le, ← Int32.toInt_inj, Int32.reduceToInt, nI_toInt] at c3 c1RephasPerson c5RephasPerson m2MDisIn m5MDisIn; omega)
            · refine jr_ic rfl ?_
              refine jr_goto rfl ?_
              refine jr_zret rfl rfl rfl (Nat.zero_le _) (Nat.zero_le _) ?_
              refine jr_zret rfl rfl rfl (Nat.zero_le _) (Nat.zero_le _) ?_
              refine jr_if_eq rfl (fun z => absurd z (by decide)) (fun _ => ?_)
              refine jr_aload rfl rfl ?_
              refine jr_cv0 (mc' := 0) (ms' := 0) rfl jm_MD_hasMonths_n jm_MD_hasMonths_f rfl rfl rfl rfl rfl rfl rfl (Nat.zero_le _) (Nat.zero_le _) ?_
              show jx_W (jm_MD_hasMonths, _, _, _, _, _, _) _ 0 0 0 [some _] [] _
              refine jr_aload rfl rfl ?_
              refine jr_getR rfl rfl rfl rfl (Or.inl rfl) ?_
              refine jr_aload rfl rfl ?_
              refine jr_getI rfl rfl ?_
              refine jr_iald (len := 2) rfl rfl hw.1 (by omega) ?_
              refine jr_if_le rfl (fun m5MDhasMonths => ?_) (fun m5MDhasMonths => ?_)
              · refine jr_ic rfl ?_
                refine jr_zret rfl rfl rfl (Nat.zero_le _) (Nat.zero_le _) ?_
                refine jr_if_ne rfl (fun z => absurd (by decide) z) (fun _ => ?_)
                refine jr_ic rfl ?_
                refine jr_iret rfl rfl (Nat.zero_le _) (Nat.zero_le _) ?_
                first
                  | exact ⟨rfl, (jz_Rel_p hRel0 hS4)⟩
                  | exact ⟨rfl, hRel0⟩
                  | (exfalso; omega)
                  | (exfalso; simp (disch := omega) only [Int32.lt_iff_toInt_lt, Int32.le_iff_toInt_le, ← Int32.toInt_inj, Int32.reduceToInt, nI_toInt] at c3 c1RephasPerson c5RephasPerson m2MDisIn m5MDisIn m5MDhasMonths; done)
                  | (exfalso; simp (disch := omega) only [Int32.lt_iff_toInt_lt, Int32.le_iff_toInt_le, ← Int32.toInt_inj, Int32.reduceToInt, nI_toInt] at c3 c1RephasPerson c5RephasPerson m2MDisIn m5MDisIn m5MDhasMonths; omega)
              · refine jr_ic rfl ?_
                refine jr_goto rfl ?_
                refine jr_zret rfl rfl rfl (Nat.zero_le _) (Nat.zero_le _) ?_
                refine jr_if_ne rfl (fun _ => ?_) (fun z => absurd z (by decide))
                refine jr_aload rfl rfl ?_
                refine jr_cv0 (mc' := 0) (ms' := 0) rfl jm_MD_layMay_n jm_MD_layMay_f rfl rfl rfl rfl rfl rfl rfl (Nat.zero_le _) (Nat.zero_le _) ?_
                refine eB_layMay hw hmo (fun S3 hS3 hM3 => ?_)
                refine jr_aload rfl rfl ?_
                refine jr_iload rfl rfl ?_
                refine jr_cv1 (mc' := 0) (ms' := 0) rfl jm_MD_voteOf_n jm_MD_voteOf_f rfl rfl rfl rfl rfl rfl rfl (Nat.zero_le _) (Nat.zero_le _) ?_
                refine eS_voteOf hw hS3 hmo (by omega) hM3 (fun S4 hS4 f4 => ?_)
                refine jr_iret rfl rfl (Nat.zero_le _) (Nat.zero_le _) ?_
                first
                  | exact ⟨rfl, (jz_Rel_p hRel0 hS4)⟩
                  | exact ⟨rfl, hRel0⟩
                  | (exfalso; omega)
                  | (exfalso; simp (disch := omega) only [Int32.lt_iff_toInt_lt, Int32.le_iff_toInt_le, ← Int32.toInt_inj, Int32.reduceToInt, nI_toInt] at c3 c1RephasPerson c5RephasPerson m2MDisIn m5MDisIn m5MDhasMonths; done)
                  | (exfalso; simp (disch := omega) only [Int32.lt_iff_toInt_lt, Int32.le_iff_toInt_le, ← Int32.toInt_inj, Int32.reduceToInt, nI_toInt] at c3 c1RephasPerson c5RephasPerson m2MDisIn m5MDisIn m5MDhasMonths; omega)
  · have hn1 : 0 < jz_nm hm b := by
      rcases Nat.eq_zero_or_pos (jz_nm hm b) with e | e
      · rw [e] at hnm; exact absurd hnm.1 hmo
      · exact e
    show jx_W (jm_JV_votes, d + 40, 0, 0, false, 0, _) _ 0 0 0 [some (jv_r 10 0), some (jv_i x)] [] _
    refine jr_aload rfl rfl ?_
    refine jr_getM rfl rfl rfl rfl hto ?_
    refine jr_getI rfl rfl ?_
    refine jr_if_eq rfl (fun c3 => ?_) (fun c3 => ?_)
    · refine jr_ic rfl ?_
      refine jr_iret rfl rfl (Nat.zero_le _) (Nat.zero_le _) ?_
      show jx_W (jm_MD_votes, d + 40, 0, 0, false, 1, _) _ 0 0 0 [some _, some _] [] _
      refine jr_aload rfl rfl ?_
      refine jr_iload rfl rfl ?_
      refine jr_cv1 (mc' := 0) (ms' := 0) rfl jm_MD_isPerson_n jm_MD_isPerson_f rfl rfl rfl rfl rfl rfl rfl (Nat.zero_le _) (Nat.zero_le _) ?_
      show jx_W (jm_MD_isPerson, _, _, _, _, _, _) _ 0 0 0 [some _, some _] [] _
      refine jr_iload rfl rfl ?_
      refine jr_ic rfl ?_
      refine jr_aload rfl rfl ?_
      refine jr_cv0 (mc' := 0) (ms' := 0) rfl jm_MD_personMany_n jm_MD_personMany_f rfl rfl rfl rfl rfl rfl rfl (Nat.zero_le _) (Nat.zero_le _) ?_
      show jx_W (jm_MD_personMany, _, _, _, _, _, _) _ 0 0 0 [some _] [] _
      refine jr_aload rfl rfl ?_
      refine jr_getR rfl rfl rfl rfl (Or.inl rfl) ?_
      refine jr_aload rfl rfl ?_
      refine jr_getI rfl rfl ?_
      refine jr_iald (len := 2) rfl rfl hw.1 (by omega) ?_
      refine jr_iret rfl rfl (Nat.zero_le _) (Nat.zero_le _) ?_
      refine jr_ic rfl ?_
      refine jr_isub rfl ?_
      refine jr_cs3 (mc' := 0) (ms' := 0) rfl jm_MD_isIn_n jm_MD_isIn_f rfl rfl rfl rfl rfl (Nat.zero_le _) (Nat.zero_le _) ?_
      show jx_W (jm_MD_isIn, _, _, _, _, _, _) _ 0 0 0 [some _, some _, some _] [] _
      refine jr_iload rfl rfl ?_
      refine jr_iload rfl rfl ?_
      refine jr_icmp_lt rfl (fun m2MDisIn => ?_) (fun m2MDisIn => ?_)
      · refine jr_ic rfl ?_
        refine jr_zret rfl rfl rfl (Nat.zero_le _) (Nat.zero_le _) ?_
        refine jr_zret rfl rfl rfl (Nat.zero_le _) (Nat.zero_le _) ?_
        refine jr_if_eq rfl (fun _ => ?_) (fun z => absurd (by decide) z)
        refine jr_ic rfl ?_
        refine jr_iret rfl rfl (Nat.zero_le _) (Nat.zero_le _) ?_
        first
          | exact ⟨rfl, hRel0⟩
          | (exfalso; omega)
          | (exfalso; simp (disch := omega) only [Int32.lt_iff_toInt_lt, Int32.le_iff_toInt_le, ← Int32.toInt_inj, Int32.reduceToInt, nI_toInt] at c3 m2MDisIn; done)
          | (exfalso; simp (disch := omega) only [Int32.lt_iff_toInt_lt, Int32.le_iff_toInt_le, ← Int32.toInt_inj, Int32.reduceToInt, nI_toInt] at c3 m2MDisIn; omega)
      · refine jr_iload rfl rfl ?_
        refine jr_iload rfl rfl ?_
        refine jr_icmp_gt rfl (fun m5MDisIn => ?_) (fun m5MDisIn => ?_)
        · refine jr_ic rfl ?_
          refine jr_zret rfl rfl rfl (Nat.zero_le _) (Nat.zero_le _) ?_
          refine jr_zret rfl rfl rfl (Nat.zero_le _) (Nat.zero_le _) ?_
          refine jr_if_eq rfl (fun _ => ?_) (fun z => absurd (by decide) z)
          refine jr_ic rfl ?_
          refine jr_iret rfl rfl (Nat.zero_le _) (Nat.zero_le _) ?_
          first
            | exact ⟨rfl, hRel0⟩
            | (exfalso; omega)
            | (exfalso; simp (disch := omega) only [Int32.lt_iff_toInt_lt, Int32.le_iff_toInt_le, ← Int32.toInt_inj, Int32.reduceToInt, nI_toInt] at c3 m2MDisIn m5MDisIn; done)
            | (exfalso; simp (disch := omega) only [Int32.lt_iff_toInt_lt, Int32.le_iff_toInt_le, ← Int32.toInt_inj, Int32.reduceToInt, nI_toInt] at c3 m2MDisIn m5MDisIn; omega)
        · refine jr_ic rfl ?_
          refine jr_goto rfl ?_
          refine jr_zret rfl rfl rfl (Nat.zero_le _) (Nat.zero_le _) ?_
          refine jr_zret rfl rfl rfl (Nat.zero_le _) (Nat.zero_le _) ?_
          refine jr_if_eq rfl (fun z => absurd z (by decide)) (fun _ => ?_)
          refine jr_aload rfl rfl ?_
          refine jr_cv0 (mc' := 0) (ms' := 0) rfl jm_MD_hasMonths_n jm_MD_hasMonths_f rfl rfl rfl rfl rfl rfl rfl (Nat.zero_le _) (Nat.zero_le _) ?_
          show jx_W (jm_MD_hasMonths, _, _, _, _, _, _) _ 0 0 0 [some _] [] _
          refine jr_aload rfl rfl ?_
          refine jr_getR rfl rfl rfl rfl (Or.inl rfl) ?_
          refine jr_aload rfl rfl ?_
          refine jr_getI rfl rfl ?_
          refine jr_iald (len := 2) rfl rfl hw.1 (by omega) ?_
          refine jr_if_le rfl (fun m5MDhasMonths => ?_) (fun m5MDhasMonths => ?_)
          · refine jr_ic rfl ?_
            refine jr_zret rfl rfl rfl (Nat.zero_le _) (Nat.zero_le _) ?_
            refine jr_if_ne rfl (fun z => absurd (by decide) z) (fun _ => ?_)
            refine jr_ic rfl ?_
            refine jr_iret rfl rfl (Nat.zero_le _) (Nat.zero_le _) ?_
            first
              | exact ⟨rfl, hRel0⟩
              | (exfalso; omega)
              | (exfalso; simp (disch := omega) only [Int32.lt_iff_toInt_lt, Int32.le_iff_toInt_le, ← Int32.toInt_inj, Int32.reduceToInt, nI_toInt] at c3 m2MDisIn m5MDisIn m5MDhasMonths; done)
              | (exfalso; simp (disch := omega) only [Int32.lt_iff_toInt_lt, Int32.le_iff_toInt_le, ← Int32.toInt_inj, Int32.reduceToInt, nI_toInt] at c3 m2MDisIn m5MDisIn m5MDhasMonths; omega)
          · refine jr_ic rfl ?_
            refine jr_goto rfl ?_
            refine jr_zret rfl rfl rfl (Nat.zero_le _) (Nat.zero_le _) ?_
            refine jr_if_ne rfl (fun _ => ?_) (fun z => absurd z (by decide))
            refine jr_aload rfl rfl ?_
            refine jr_cv0 (mc' := 0) (ms' := 0) rfl jm_MD_layMay_n jm_MD_layMay_f rfl rfl rfl rfl rfl rfl rfl (Nat.zero_le _) (Nat.zero_le _) ?_
            first
              | (exfalso; omega)
              | (exfalso; simp (disch := omega) only [Int32.lt_iff_toInt_lt, Int32.le_iff_toInt_le, ← Int32.toInt_inj, Int32.reduceToInt, nI_toInt] at c3 m2MDisIn m5MDisIn m5MDhasMonths; done)
              | (exfalso; simp (disch := omega) only [Int32.lt_iff_toInt_lt, Int32.le_iff_toInt_le, ← Int32.toInt_inj, Int32.reduceToInt, nI_toInt] at c3 m2MDisIn m5MDisIn m5MDhasMonths; omega)
    · refine jr_aload rfl rfl ?_
      refine jr_getM rfl rfl rfl rfl hto ?_
      refine jr_iload rfl rfl ?_
      refine jr_cv1 (mc' := 0) (ms' := 0) rfl jm_Rep_hasPerson_n jm_Rep_hasPerson_f rfl rfl rfl rfl rfl rfl rfl (Nat.zero_le _) (Nat.zero_le _) ?_
      show jx_W (jm_Rep_hasPerson, _, _, _, _, _, _) _ 0 0 0 [some _, some _] [] _
      refine jr_iload rfl rfl ?_
      refine jr_if_lt rfl (fun c1RephasPerson => ?_) (fun c1RephasPerson => ?_)
      · refine jr_ic rfl ?_
        refine jr_zret rfl rfl rfl (Nat.zero_le _) (Nat.zero_le _) ?_
        refine jr_if_ne rfl (fun z => absurd (by decide) z) (fun _ => ?_)
        refine jr_ic rfl ?_
        refine jr_iret rfl rfl (Nat.zero_le _) (Nat.zero_le _) ?_
        show jx_W (jm_MD_votes, d + 40, 0, 0, false, 1, _) _ 0 0 0 [some _, some _] [] _
        refine jr_aload rfl rfl ?_
        refine jr_iload rfl rfl ?_
        refine jr_cv1 (mc' := 0) (ms' := 0) rfl jm_MD_isPerson_n jm_MD_isPerson_f rfl rfl rfl rfl rfl rfl rfl (Nat.zero_le _) (Nat.zero_le _) ?_
        show jx_W (jm_MD_isPerson, _, _, _, _, _, _) _ 0 0 0 [some _, some _] [] _
        refine jr_iload rfl rfl ?_
        refine jr_ic rfl ?_
        refine jr_aload rfl rfl ?_
        refine jr_cv0 (mc' := 0) (ms' := 0) rfl jm_MD_personMany_n jm_MD_personMany_f rfl rfl rfl rfl rfl rfl rfl (Nat.zero_le _) (Nat.zero_le _) ?_
        show jx_W (jm_MD_personMany, _, _, _, _, _, _) _ 0 0 0 [some _] [] _
        refine jr_aload rfl rfl ?_
        refine jr_getR rfl rfl rfl rfl (Or.inl rfl) ?_
        refine jr_aload rfl rfl ?_
        refine jr_getI rfl rfl ?_
        refine jr_iald (len := 2) rfl rfl hw.1 (by omega) ?_
        refine jr_iret rfl rfl (Nat.zero_le _) (Nat.zero_le _) ?_
        refine jr_ic rfl ?_
        refine jr_isub rfl ?_
        refine jr_cs3 (mc' := 0) (ms' := 0) rfl jm_MD_isIn_n jm_MD_isIn_f rfl rfl rfl rfl rfl (Nat.zero_le _) (Nat.zero_le _) ?_
        show jx_W (jm_MD_isIn, _, _, _, _, _, _) _ 0 0 0 [some _, some _, some _] [] _
        refine jr_iload rfl rfl ?_
        refine jr_iload rfl rfl ?_
        refine jr_icmp_lt rfl (fun m2MDisIn => ?_) (fun m2MDisIn => ?_)
        · refine jr_ic rfl ?_
          refine jr_zret rfl rfl rfl (Nat.zero_le _) (Nat.zero_le _) ?_
          refine jr_zret rfl rfl rfl (Nat.zero_le _) (Nat.zero_le _) ?_
          refine jr_if_eq rfl (fun _ => ?_) (fun z => absurd (by decide) z)
          refine jr_ic rfl ?_
          refine jr_iret rfl rfl (Nat.zero_le _) (Nat.zero_le _) ?_
          first
            | exact ⟨rfl, hRel0⟩
            | (exfalso; omega)
            | (exfalso; simp (disch := omega) only [Int32.lt_iff_toInt_lt, Int32.le_iff_toInt_le, ← Int32.toInt_inj, Int32.reduceToInt, nI_toInt] at c3 c1RephasPerson m2MDisIn; done)
            | (exfalso; simp (disch := omega) only [Int32.lt_iff_toInt_lt, Int32.le_iff_toInt_le, ← Int32.toInt_inj, Int32.reduceToInt, nI_toInt] at c3 c1RephasPerson m2MDisIn; omega)
        · refine jr_iload rfl rfl ?_
          refine jr_iload rfl rfl ?_
          refine jr_icmp_gt rfl (fun m5MDisIn => ?_) (fun m5MDisIn => ?_)
          · refine jr_ic rfl ?_
            refine jr_zret rfl rfl rfl (Nat.zero_le _) (Nat.zero_le _) ?_
            refine jr_zret rfl rfl rfl (Nat.zero_le _) (Nat.zero_le _) ?_
            refine jr_if_eq rfl (fun _ => ?_) (fun z => absurd (by decide) z)
            refine jr_ic rfl ?_
            refine jr_iret rfl rfl (Nat.zero_le _) (Nat.zero_le _) ?_
            first
              | exact ⟨rfl, hRel0⟩
              | (exfalso; omega)
              | (exfalso; simp (disch := omega) only [Int32.lt_iff_toInt_lt, Int32.le_iff_toInt_le, ← Int32.toInt_inj, Int32.reduceToInt, nI_toInt] at c3 c1RephasPerson m2MDisIn m5MDisIn; done)
              | (exfalso; simp (disch := omega) only [Int32.lt_iff_toInt_lt, Int32.le_iff_toInt_le, ← Int32.toInt_inj, Int32.reduceToInt, nI_toInt] at c3 c1RephasPerson m2MDisIn m5MDisIn; omega)
          · refine jr_ic rfl ?_
            refine jr_goto rfl ?_
            refine jr_zret rfl rfl rfl (Nat.zero_le _) (Nat.zero_le _) ?_
            refine jr_zret rfl rfl rfl (Nat.zero_le _) (Nat.zero_le _) ?_
            refine jr_if_eq rfl (fun z => absurd z (by decide)) (fun _ => ?_)
            refine jr_aload rfl rfl ?_
            refine jr_cv0 (mc' := 0) (ms' := 0) rfl jm_MD_hasMonths_n jm_MD_hasMonths_f rfl rfl rfl rfl rfl rfl rfl (Nat.zero_le _) (Nat.zero_le _) ?_
            show jx_W (jm_MD_hasMonths, _, _, _, _, _, _) _ 0 0 0 [some _] [] _
            refine jr_aload rfl rfl ?_
            refine jr_getR rfl rfl rfl rfl (Or.inl rfl) ?_
            refine jr_aload rfl rfl ?_
            refine jr_getI rfl rfl ?_
            refine jr_iald (len := 2) rfl rfl hw.1 (by omega) ?_
            refine jr_if_le rfl (fun m5MDhasMonths => ?_) (fun m5MDhasMonths => ?_)
            · refine jr_ic rfl ?_
              refine jr_zret rfl rfl rfl (Nat.zero_le _) (Nat.zero_le _) ?_
              refine jr_if_ne rfl (fun z => absurd (by decide) z) (fun _ => ?_)
              refine jr_ic rfl ?_
              refine jr_iret rfl rfl (Nat.zero_le _) (Nat.zero_le _) ?_
              first
                | exact ⟨rfl, hRel0⟩
                | (exfalso; omega)
                | (exfalso; simp (disch := omega) only [Int32.lt_iff_toInt_lt, Int32.le_iff_toInt_le, ← Int32.toInt_inj, Int32.reduceToInt, nI_toInt] at c3 c1RephasPerson m2MDisIn m5MDisIn m5MDhasMonths; done)
                | (exfalso; simp (disch := omega) only [Int32.lt_iff_toInt_lt, Int32.le_iff_toInt_le, ← Int32.toInt_inj, Int32.reduceToInt, nI_toInt] at c3 c1RephasPerson m2MDisIn m5MDisIn m5MDhasMonths; omega)
            · refine jr_ic rfl ?_
              refine jr_goto rfl ?_
              refine jr_zret rfl rfl rfl (Nat.zero_le _) (Nat.zero_le _) ?_
              refine jr_if_ne rfl (fun _ => ?_) (fun z => absurd z (by decide))
              refine jr_aload rfl rfl ?_
              refine jr_cv0 (mc' := 0) (ms' := 0) rfl jm_MD_layMay_n jm_MD_layMay_f rfl rfl rfl rfl rfl rfl rfl (Nat.zero_le _) (Nat.zero_le _) ?_
              first
                | (exfalso; omega)
                | (exfalso; simp (disch := omega) only [Int32.lt_iff_toInt_lt, Int32.le_iff_toInt_le, ← Int32.toInt_inj, Int32.reduceToInt, nI_toInt] at c3 c1RephasPerson m2MDisIn m5MDisIn m5MDhasMonths; done)
                | (exfalso; simp (disch := omega) only [Int32.lt_iff_toInt_lt, Int32.le_iff_toInt_le, ← Int32.toInt_inj, Int32.reduceToInt, nI_toInt] at c3 c1RephasPerson m2MDisIn m5MDisIn m5MDhasMonths; omega)
      · refine jr_iload rfl rfl ?_
        refine jr_aload rfl rfl ?_
        refine jr_getI rfl rfl ?_
        refine jr_icmp_ge rfl (fun c5RephasPerson => ?_) (fun c5RephasPerson => ?_)
        · refine jr_ic rfl ?_
          refine jr_zret rfl rfl rfl (Nat.zero_le _) (Nat.zero_le _) ?_
          refine jr_if_ne rfl (fun z => absurd (by decide) z) (fun _ => ?_)
          refine jr_ic rfl ?_
          refine jr_iret rfl rfl (Nat.zero_le _) (Nat.zero_le _) ?_
          show jx_W (jm_MD_votes, d + 40, 0, 0, false, 1, _) _ 0 0 0 [some _, some _] [] _
          refine jr_aload rfl rfl ?_
          refine jr_iload rfl rfl ?_
          refine jr_cv1 (mc' := 0) (ms' := 0) rfl jm_MD_isPerson_n jm_MD_isPerson_f rfl rfl rfl rfl rfl rfl rfl (Nat.zero_le _) (Nat.zero_le _) ?_
          show jx_W (jm_MD_isPerson, _, _, _, _, _, _) _ 0 0 0 [some _, some _] [] _
          refine jr_iload rfl rfl ?_
          refine jr_ic rfl ?_
          refine jr_aload rfl rfl ?_
          refine jr_cv0 (mc' := 0) (ms' := 0) rfl jm_MD_personMany_n jm_MD_personMany_f rfl rfl rfl rfl rfl rfl rfl (Nat.zero_le _) (Nat.zero_le _) ?_
          show jx_W (jm_MD_personMany, _, _, _, _, _, _) _ 0 0 0 [some _] [] _
          refine jr_aload rfl rfl ?_
          refine jr_getR rfl rfl rfl rfl (Or.inl rfl) ?_
          refine jr_aload rfl rfl ?_
          refine jr_getI rfl rfl ?_
          refine jr_iald (len := 2) rfl rfl hw.1 (by omega) ?_
          refine jr_iret rfl rfl (Nat.zero_le _) (Nat.zero_le _) ?_
          refine jr_ic rfl ?_
          refine jr_isub rfl ?_
          refine jr_cs3 (mc' := 0) (ms' := 0) rfl jm_MD_isIn_n jm_MD_isIn_f rfl rfl rfl rfl rfl (Nat.zero_le _) (Nat.zero_le _) ?_
          show jx_W (jm_MD_isIn, _, _, _, _, _, _) _ 0 0 0 [some _, some _, some _] [] _
          refine jr_iload rfl rfl ?_
          refine jr_iload rfl rfl ?_
          refine jr_icmp_lt rfl (fun m2MDisIn => ?_) (fun m2MDisIn => ?_)
          · refine jr_ic rfl ?_
            refine jr_zret rfl rfl rfl (Nat.zero_le _) (Nat.zero_le _) ?_
            refine jr_zret rfl rfl rfl (Nat.zero_le _) (Nat.zero_le _) ?_
            refine jr_if_eq rfl (fun _ => ?_) (fun z => absurd (by decide) z)
            refine jr_ic rfl ?_
            refine jr_iret rfl rfl (Nat.zero_le _) (Nat.zero_le _) ?_
            first
              | exact ⟨rfl, hRel0⟩
              | (exfalso; omega)
              | (exfalso; simp (disch := omega) only [Int32.lt_iff_toInt_lt, Int32.le_iff_toInt_le, ← Int32.toInt_inj, Int32.reduceToInt, nI_toInt] at c3 c1RephasPerson c5RephasPerson m2MDisIn; done)
              | (exfalso; simp (disch := omega) only [Int32.lt_iff_toInt_lt, Int32.le_iff_toInt_le, ← Int32.toInt_inj, Int32.reduceToInt, nI_toInt] at c3 c1RephasPerson c5RephasPerson m2MDisIn; omega)
          · refine jr_iload rfl rfl ?_
            refine jr_iload rfl rfl ?_
            refine jr_icmp_gt rfl (fun m5MDisIn => ?_) (fun m5MDisIn => ?_)
            · refine jr_ic rfl ?_
              refine jr_zret rfl rfl rfl (Nat.zero_le _) (Nat.zero_le _) ?_
              refine jr_zret rfl rfl rfl (Nat.zero_le _) (Nat.zero_le _) ?_
              refine jr_if_eq rfl (fun _ => ?_) (fun z => absurd (by decide) z)
              refine jr_ic rfl ?_
              refine jr_iret rfl rfl (Nat.zero_le _) (Nat.zero_le _) ?_
              first
                | exact ⟨rfl, hRel0⟩
                | (exfalso; omega)
                | (exfalso; simp (disch := omega) only [Int32.lt_iff_toInt_lt, Int32.le_iff_toInt_le, ← Int32.toInt_inj, Int32.reduceToInt, nI_toInt] at c3 c1RephasPerson c5RephasPerson m2MDisIn m5MDisIn; done)
                | (exfalso; simp (disch := omega) only [Int32.lt_iff_toInt_lt, Int32.le_iff_toInt_le, ← Int32.toInt_inj, Int32.reduceToInt, nI_toInt] at c3 c1RephasPerson c5RephasPerson m2MDisIn m5MDisIn; omega)
            · refine jr_ic rfl ?_
              refine jr_goto rfl ?_
              refine jr_zret rfl rfl rfl (Nat.zero_le _) (Nat.zero_le _) ?_
              refine jr_zret rfl rfl rfl (Nat.zero_le _) (Nat.zero_le _) ?_
              refine jr_if_eq rfl (fun z => absurd z (by decide)) (fun _ => ?_)
              refine jr_aload rfl rfl ?_
              refine jr_cv0 (mc' := 0) (ms' := 0) rfl jm_MD_hasMonths_n jm_MD_hasMonths_f rfl rfl rfl rfl rfl rfl rfl (Nat.zero_le _) (Nat.zero_le _) ?_
              show jx_W (jm_MD_hasMonths, _, _, _, _, _, _) _ 0 0 0 [some _] [] _
              refine jr_aload rfl rfl ?_
              refine jr_getR rfl rfl rfl rfl (Or.inl rfl) ?_
              refine jr_aload rfl rfl ?_
              refine jr_getI rfl rfl ?_
              refine jr_iald (len := 2) rfl rfl hw.1 (by omega) ?_
              refine jr_if_le rfl (fun m5MDhasMonths => ?_) (fun m5MDhasMonths => ?_)
              · refine jr_ic rfl ?_
                refine jr_zret rfl rfl rfl (Nat.zero_le _) (Nat.zero_le _) ?_
                refine jr_if_ne rfl (fun z => absurd (by decide) z) (fun _ => ?_)
                refine jr_ic rfl ?_
                refine jr_iret rfl rfl (Nat.zero_le _) (Nat.zero_le _) ?_
                first
                  | exact ⟨rfl, hRel0⟩
                  | (exfalso; omega)
                  | (exfalso; simp (disch := omega) only [Int32.lt_iff_toInt_lt, Int32.le_iff_toInt_le, ← Int32.toInt_inj, Int32.reduceToInt, nI_toInt] at c3 c1RephasPerson c5RephasPerson m2MDisIn m5MDisIn m5MDhasMonths; done)
                  | (exfalso; simp (disch := omega) only [Int32.lt_iff_toInt_lt, Int32.le_iff_toInt_le, ← Int32.toInt_inj, Int32.reduceToInt, nI_toInt] at c3 c1RephasPerson c5RephasPerson m2MDisIn m5MDisIn m5MDhasMonths; omega)
              · refine jr_ic rfl ?_
                refine jr_goto rfl ?_
                refine jr_zret rfl rfl rfl (Nat.zero_le _) (Nat.zero_le _) ?_
                refine jr_if_ne rfl (fun _ => ?_) (fun z => absurd z (by decide))
                refine jr_aload rfl rfl ?_
                refine jr_cv0 (mc' := 0) (ms' := 0) rfl jm_MD_layMay_n jm_MD_layMay_f rfl rfl rfl rfl rfl rfl rfl (Nat.zero_le _) (Nat.zero_le _) ?_
                first
                  | (exfalso; omega)
                  | (exfalso; simp (disch := omega) only [Int32.lt_iff_toInt_lt, Int32.le_iff_toInt_le, ← Int32.toInt_inj, Int32.reduceToInt, nI_toInt] at c3 c1RephasPerson c5RephasPerson m2MDisIn m5MDisIn m5MDhasMonths; done)
                  | (exfalso; simp (disch := omega) only [Int32.lt_iff_toInt_lt, Int32.le_iff_toInt_le, ← Int32.toInt_inj, Int32.reduceToInt, nI_toInt] at c3 c1RephasPerson c5RephasPerson m2MDisIn m5MDisIn m5MDhasMonths; omega)
        · refine jr_ic rfl ?_
          refine jr_goto rfl ?_
          refine jr_zret rfl rfl rfl (Nat.zero_le _) (Nat.zero_le _) ?_
          refine jr_if_ne rfl (fun _ => ?_) (fun z => absurd z (by decide))
          refine jr_aload rfl rfl ?_
          refine jr_getR rfl rfl rfl rfl (Or.inl rfl) ?_
          refine jr_aload rfl rfl ?_
          refine jr_getR rfl rfl rfl rfl (Or.inl rfl) ?_
          refine jr_cv1 (mc' := 0) (ms' := 0) rfl jm_Poll_open_n jm_Poll_open_f rfl rfl rfl rfl rfl rfl rfl (Nat.zero_le _) (Nat.zero_le _) ?_
          first
            | (exfalso; omega)
            | (exfalso; simp (disch := omega) only [Int32.lt_iff_toInt_lt, Int32.le_iff_toInt_le, ← Int32.toInt_inj, Int32.reduceToInt, nI_toInt] at c3 c1RephasPerson c5RephasPerson; done)
            | (exfalso; simp (disch := omega) only [Int32.lt_iff_toInt_lt, Int32.le_iff_toInt_le, ← Int32.toInt_inj, Int32.reduceToInt, nI_toInt] at c3 c1RephasPerson c5RephasPerson; omega)

set_option maxHeartbeats 800000 in
set_option maxRecDepth 100000 in
theorem pd_counted {d : Nat} {hc hm : jx_H} (hRel : jz_Rel hc hm) : jx_Ev jm_JV_counted (d + 40) 0 0 false 0 [jv_r 10 0] hc (fun r hc' => jx_Ev jm_MD_counted (d + 40) 0 0 false 1 [jv_r 11 0] hm (fun r' hm' => r = r' ∧ jz_Rel hc' hm')) := by
  have hRel0 := hRel
  obtain ⟨b, r, ⟨hw, hG, hr2, hto, hsp, hR, hA, hL⟩, hTa, hFa, hLy, hTi, hLe, hBo, hAc, hWo⟩ := hRel
  have hb2 := hw.2.1
  have hnm := hw.2.2.1.1
  have hnm5 := hnm.2
  have km1 : (jh_I hc 7 r 0).toInt = (jz_nm hm b : Int) := by rw [hR.1]; exact (congrArg Int32.toInt hnm.1).trans (nI_toInt (by omega))
  have km2 : (jh_I hm 66 0 b).toInt = (jz_nm hm b : Int) := (congrArg Int32.toInt hnm.1).trans (nI_toInt (by omega))
  have km3 : (jh_I hm 66 0 b - 1).toInt = (jz_nm hm b : Int) - 1 := by rw [Int32.toInt_sub, km2, show (1 : Int32).toInt = 1 from rfl]; exact jn_sm (by omega) (by omega)
  rcases Classical.em (jC hm b 0 0 = 0) with hmo | hmo
  · have hn0 : (jz_nm hm b : Int) = 0 := by rw [← km2]; exact congrArg Int32.toInt hmo
    show jx_W (jm_JV_counted, d + 40, 0, 0, false, 0, _) _ 0 0 0 [some (jv_r 10 0)] [] _
    refine jr_aload rfl rfl ?_
    refine jr_getM rfl rfl rfl rfl hto ?_
    refine jr_getI rfl rfl ?_
    refine jr_if_ne rfl (fun c3 => ?_) (fun c3 => ?_)
    · refine jr_aload rfl rfl ?_
      refine jr_getR rfl rfl rfl rfl (Or.inl rfl) ?_
      refine jr_aload rfl rfl ?_
      refine jr_getR rfl rfl rfl rfl (Or.inl rfl) ?_
      refine jr_cv1 (mc' := 0) (ms' := 0) rfl jm_Poll_resultFor_n jm_Poll_resultFor_f rfl rfl rfl rfl rfl rfl rfl (Nat.zero_le _) (Nat.zero_le _) ?_
      first
        | (exfalso; omega)
        | (exfalso; simp (disch := omega) only [Int32.lt_iff_toInt_lt, Int32.le_iff_toInt_le, ← Int32.toInt_inj, Int32.reduceToInt, nI_toInt] at c3; done)
        | (exfalso; simp (disch := omega) only [Int32.lt_iff_toInt_lt, Int32.le_iff_toInt_le, ← Int32.toInt_inj, Int32.reduceToInt, nI_toInt] at c3; omega)
    · refine jr_ic rfl ?_
      refine jr_goto rfl ?_
      refine jr_iret rfl rfl (Nat.zero_le _) (Nat.zero_le _) ?_
      show jx_W (jm_MD_counted, d + 40, 0, 0, false, 1, _) _ 0 0 0 [some _] [] _
      refine jr_aload rfl rfl ?_
      refine jr_cv0 (mc' := 0) (ms' := 0) rfl jm_MD_hasMonths_n jm_MD_hasMonths_f rfl rfl rfl rfl rfl rfl rfl (Nat.zero_le _) (Nat.zero_le _) ?_
      show jx_W (jm_MD_hasMonths, _, _, _, _, _, _) _ 0 0 0 [some _] [] _
      refine jr_aload rfl rfl ?_
      refine jr_getR rfl rfl rfl rfl (Or.inl rfl) ?_
      refine jr_aload rfl rfl ?_
      refine jr_getI rfl rfl ?_
      refine jr_iald (len := 2) rfl rfl hw.1 (by omega) ?_
      refine jr_if_le rfl (fun m5MDhasMonths => ?_) (fun m5MDhasMonths => ?_)
      · refine jr_ic rfl ?_
        refine jr_zret rfl rfl rfl (Nat.zero_le _) (Nat.zero_le _) ?_
        refine jr_if_eq rfl (fun _ => ?_) (fun z => absurd (by decide) z)
        refine jr_ic rfl ?_
        refine jr_iret rfl rfl (Nat.zero_le _) (Nat.zero_le _) ?_
        first
          | exact ⟨rfl, hRel0⟩
          | (exfalso; omega)
          | (exfalso; simp (disch := omega) only [Int32.lt_iff_toInt_lt, Int32.le_iff_toInt_le, ← Int32.toInt_inj, Int32.reduceToInt, nI_toInt] at c3 m5MDhasMonths; done)
          | (exfalso; simp (disch := omega) only [Int32.lt_iff_toInt_lt, Int32.le_iff_toInt_le, ← Int32.toInt_inj, Int32.reduceToInt, nI_toInt] at c3 m5MDhasMonths; omega)
      · refine jr_ic rfl ?_
        refine jr_goto rfl ?_
        refine jr_zret rfl rfl rfl (Nat.zero_le _) (Nat.zero_le _) ?_
        refine jr_if_eq rfl (fun z => absurd z (by decide)) (fun _ => ?_)
        refine jr_aload rfl rfl ?_
        refine jr_cv0 (mc' := 0) (ms' := 0) rfl jm_MD_countedNow_n jm_MD_countedNow_f rfl rfl rfl rfl rfl rfl rfl (Nat.zero_le _) (Nat.zero_le _) ?_
        first
          | (exfalso; omega)
          | (exfalso; simp (disch := omega) only [Int32.lt_iff_toInt_lt, Int32.le_iff_toInt_le, ← Int32.toInt_inj, Int32.reduceToInt, nI_toInt] at c3 m5MDhasMonths; done)
          | (exfalso; simp (disch := omega) only [Int32.lt_iff_toInt_lt, Int32.le_iff_toInt_le, ← Int32.toInt_inj, Int32.reduceToInt, nI_toInt] at c3 m5MDhasMonths; omega)
  · have hn1 : 0 < jz_nm hm b := by
      rcases Nat.eq_zero_or_pos (jz_nm hm b) with e | e
      · rw [e] at hnm; exact absurd hnm.1 hmo
      · exact e
    show jx_W (jm_JV_counted, d + 40, 0, 0, false, 0, _) _ 0 0 0 [some (jv_r 10 0)] [] _
    refine jr_aload rfl rfl ?_
    refine jr_getM rfl rfl rfl rfl hto ?_
    refine jr_getI rfl rfl ?_
    refine jr_if_ne rfl (fun c3 => ?_) (fun c3 => ?_)
    · refine jr_aload rfl rfl ?_
      refine jr_getR rfl rfl rfl rfl (Or.inl rfl) ?_
      refine jr_aload rfl rfl ?_
      refine jr_getR rfl rfl rfl rfl (Or.inl rfl) ?_
      refine jr_cv1 (mc' := 0) (ms' := 0) rfl jm_Poll_resultFor_n jm_Poll_resultFor_f rfl rfl rfl rfl rfl rfl rfl (Nat.zero_le _) (Nat.zero_le _) ?_
      refine eB_result hw hA hR hmo (fun S1 => ?_)
      refine jr_iret rfl rfl (Nat.zero_le _) (Nat.zero_le _) ?_
      show jx_W (jm_MD_counted, d + 40, 0, 0, false, 1, _) _ 0 0 0 [some _] [] _
      refine jr_aload rfl rfl ?_
      refine jr_cv0 (mc' := 0) (ms' := 0) rfl jm_MD_hasMonths_n jm_MD_hasMonths_f rfl rfl rfl rfl rfl rfl rfl (Nat.zero_le _) (Nat.zero_le _) ?_
      show jx_W (jm_MD_hasMonths, _, _, _, _, _, _) _ 0 0 0 [some _] [] _
      refine jr_aload rfl rfl ?_
      refine jr_getR rfl rfl rfl rfl (Or.inl rfl) ?_
      refine jr_aload rfl rfl ?_
      refine jr_getI rfl rfl ?_
      refine jr_iald (len := 2) rfl rfl hw.1 (by omega) ?_
      refine jr_if_le rfl (fun m5MDhasMonths => ?_) (fun m5MDhasMonths => ?_)
      · refine jr_ic rfl ?_
        refine jr_zret rfl rfl rfl (Nat.zero_le _) (Nat.zero_le _) ?_
        refine jr_if_eq rfl (fun _ => ?_) (fun z => absurd (by decide) z)
        refine jr_ic rfl ?_
        refine jr_iret rfl rfl (Nat.zero_le _) (Nat.zero_le _) ?_
        first
          | exact ⟨rfl, (jz_Rel_p hRel0 hS2)⟩
          | exact ⟨rfl, hRel0⟩
          | (exfalso; omega)
          | (exfalso; simp (disch := omega) only [Int32.lt_iff_toInt_lt, Int32.le_iff_toInt_le, ← Int32.toInt_inj, Int32.reduceToInt, nI_toInt] at c3 m5MDhasMonths; done)
          | (exfalso; simp (disch := omega) only [Int32.lt_iff_toInt_lt, Int32.le_iff_toInt_le, ← Int32.toInt_inj, Int32.reduceToInt, nI_toInt] at c3 m5MDhasMonths; omega)
      · refine jr_ic rfl ?_
        refine jr_goto rfl ?_
        refine jr_zret rfl rfl rfl (Nat.zero_le _) (Nat.zero_le _) ?_
        refine jr_if_eq rfl (fun z => absurd z (by decide)) (fun _ => ?_)
        refine jr_aload rfl rfl ?_
        refine jr_cv0 (mc' := 0) (ms' := 0) rfl jm_MD_countedNow_n jm_MD_countedNow_f rfl rfl rfl rfl rfl rfl rfl (Nat.zero_le _) (Nat.zero_le _) ?_
        refine eB_counted hw hmo (fun S2 hS2 => ?_)
        refine jr_goto rfl ?_
        refine jr_iret rfl rfl (Nat.zero_le _) (Nat.zero_le _) ?_
        first
          | exact ⟨rfl, (jz_Rel_p hRel0 hS2)⟩
          | exact ⟨rfl, hRel0⟩
          | (exfalso; omega)
          | (exfalso; simp (disch := omega) only [Int32.lt_iff_toInt_lt, Int32.le_iff_toInt_le, ← Int32.toInt_inj, Int32.reduceToInt, nI_toInt] at c3 m5MDhasMonths; done)
          | (exfalso; simp (disch := omega) only [Int32.lt_iff_toInt_lt, Int32.le_iff_toInt_le, ← Int32.toInt_inj, Int32.reduceToInt, nI_toInt] at c3 m5MDhasMonths; omega)
    · refine jr_ic rfl ?_
      refine jr_goto rfl ?_
      refine jr_iret rfl rfl (Nat.zero_le _) (Nat.zero_le _) ?_
      show jx_W (jm_MD_counted, d + 40, 0, 0, false, 1, _) _ 0 0 0 [some _] [] _
      refine jr_aload rfl rfl ?_
      refine jr_cv0 (mc' := 0) (ms' := 0) rfl jm_MD_hasMonths_n jm_MD_hasMonths_f rfl rfl rfl rfl rfl rfl rfl (Nat.zero_le _) (Nat.zero_le _) ?_
      show jx_W (jm_MD_hasMonths, _, _, _, _, _, _) _ 0 0 0 [some _] [] _
      refine jr_aload rfl rfl ?_
      refine jr_getR rfl rfl rfl rfl (Or.inl rfl) ?_
      refine jr_aload rfl rfl ?_
      refine jr_getI rfl rfl ?_
      refine jr_iald (len := 2) rfl rfl hw.1 (by omega) ?_
      refine jr_if_le rfl (fun m5MDhasMonths => ?_) (fun m5MDhasMonths => ?_)
      · refine jr_ic rfl ?_
        refine jr_zret rfl rfl rfl (Nat.zero_le _) (Nat.zero_le _) ?_
        refine jr_if_eq rfl (fun _ => ?_) (fun z => absurd (by decide) z)
        refine jr_ic rfl ?_
        refine jr_iret rfl rfl (Nat.zero_le _) (Nat.zero_le _) ?_
        first
          | exact ⟨rfl, (jz_Rel_p hRel0 hS2)⟩
          | exact ⟨rfl, hRel0⟩
          | (exfalso; omega)
          | (exfalso; simp (disch := omega) only [Int32.lt_iff_toInt_lt, Int32.le_iff_toInt_le, ← Int32.toInt_inj, Int32.reduceToInt, nI_toInt] at c3 m5MDhasMonths; done)
          | (exfalso; simp (disch := omega) only [Int32.lt_iff_toInt_lt, Int32.le_iff_toInt_le, ← Int32.toInt_inj, Int32.reduceToInt, nI_toInt] at c3 m5MDhasMonths; omega)
      · refine jr_ic rfl ?_
        refine jr_goto rfl ?_
        refine jr_zret rfl rfl rfl (Nat.zero_le _) (Nat.zero_le _) ?_
        refine jr_if_eq rfl (fun z => absurd z (by decide)) (fun _ => ?_)
        refine jr_aload rfl rfl ?_
        refine jr_cv0 (mc' := 0) (ms' := 0) rfl jm_MD_countedNow_n jm_MD_countedNow_f rfl rfl rfl rfl rfl rfl rfl (Nat.zero_le _) (Nat.zero_le _) ?_
        refine eB_counted hw hmo (fun S2 hS2 => ?_)
        refine jr_goto rfl ?_
        refine jr_iret rfl rfl (Nat.zero_le _) (Nat.zero_le _) ?_
        first
          | exact ⟨rfl, (jz_Rel_p hRel0 hS2)⟩
          | exact ⟨rfl, hRel0⟩
          | (exfalso; omega)
          | (exfalso; simp (disch := omega) only [Int32.lt_iff_toInt_lt, Int32.le_iff_toInt_le, ← Int32.toInt_inj, Int32.reduceToInt, nI_toInt] at c3 m5MDhasMonths; done)
          | (exfalso; simp (disch := omega) only [Int32.lt_iff_toInt_lt, Int32.le_iff_toInt_le, ← Int32.toInt_inj, Int32.reduceToInt, nI_toInt] at c3 m5MDhasMonths; omega)

