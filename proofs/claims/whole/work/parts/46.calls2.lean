theorem jN_u (h : jx_H) (k i : Nat) (f : Nat → Int32) (hk : jk_n k = false) : jN (ju_I h k i f) = jN h := by
  unfold jN ju_I
  refine Prod.ext ?_ rfl
  funext x y
  dsimp only
  split
  · rename_i e
    rw [if_neg]
    intro z
    rw [z.1, hk] at e
    exact absurd e.1 (by decide)
  · rfl
theorem jz_G_t {h h' : jx_H} {b : Nat} {a : jw_A} (e : jN h' = jN h) (g : jz_G h b a) : jz_G h' b a := by
  rw [← jz_G_N, e, jz_G_N]
  exact g
theorem jz_Ac_t {hc hc' hm hm' : jx_H} {b : Nat} (e : jN hm' = jN hm) (r1 : jh_I hc' 0 0 4 = jh_I hc 0 0 4 ∧ jh_I hc' 0 0 5 = jh_I hc 0 0 5) (r2 : jh_I hm' 11 0 60 = jh_I hm 11 0 60 ∧ jh_I hm' 11 0 61 = jh_I hm 11 0 61)
    (r3 : jh_I hc' 48 0 = jh_I hc 48 0 ∧ jh_I hc' 49 0 = jh_I hc 49 0 ∧ jh_I hc' 50 0 = jh_I hc 50 0 ∧ jh_I hc' 51 0 = jh_I hc 51 0) (r4 : jh_I hm' 98 0 = jh_I hm 98 0 ∧ jh_I hm' 103 0 = jh_I hm 103 0) (h : jz_Ac hc hm b) : jz_Ac hc' hm' b := by
  obtain ⟨n, u, a1, a2, a3, a4, a5, σ, g1, g2, g3, g4, g5, g6⟩ := h
  refine ⟨n, u, a1, r1.1.trans a2, r1.2.trans a3, r2.1.trans a4, r2.2.trans a5, σ, g1.trans r4.1.symm, ?_, ?_, fun j hj => jz_G_t e (g4 j hj), ?_, ?_⟩
  · rw [r4.2]; exact g2
  · rw [r4.2]; exact g3
  · rw [show jA hm' = jA hm from r4.1]; exact g5
  · rw [r3.1, r3.2.1, r3.2.2.1, r3.2.2.2]
    exact fun j hj => jz_act_t e (g6 j hj)
set_option maxHeartbeats 800000 in
set_option maxRecDepth 100000 in
theorem pd_end {d : Nat} {hc hm : jx_H} {x : Int32} (hRel : jz_Rel hc hm) : jx_Ev jm_JV_end (d + 40) 0 0 false 0 [jv_r 10 0, jv_i x] hc (fun r hc' => jx_Ev jm_MD_end (d + 40) 0 0 false 1 [jv_r 11 0, jv_i x] hm (fun r' hm' => r = r' ∧ jz_Rel hc' hm')) := by
  have hRel0 := hRel
  obtain ⟨b, r, ⟨hw, hG, hr2, hto, hsp, hR, hA, hL⟩, hTa, hFa, hLy, hTi, hLe, hBo, hAc, hWo⟩ := hRel
  have hb2 := hw.2.1
  have hTa0 := hTa
  obtain ⟨s, t1, t2, t3, t4⟩ := hTa0
  have g1 := jz_gi t1 (by omega)
  have g2 := jz_gi t2 (by omega)
  have hC0 : jz_C hc hm b r := ⟨hw, hG, hr2, hto, hsp, hR, hA, hL⟩
  rcases nI_dec' x 0 s (by omega) with ⟨i, rfl, -, hi, hi2⟩ | hi
  · show jx_W (jm_JV_end, d + 40, 0, 0, false, 0, _) _ 0 0 0 [some (jv_r 10 0), some (jv_i (nI i))] [] _
    refine jr_iload rfl rfl ?_
    refine jr_if_lt rfl (fun c1 => ?_) (fun c1 => ?_)
    · refine jr_ic rfl ?_
      refine jr_iret rfl rfl (Nat.zero_le _) (Nat.zero_le _) ?_
      show jx_W (jm_MD_end, d + 40, 0, 0, false, 1, _) _ 0 0 0 [some _, some _] [] _
      refine jr_iload rfl rfl ?_
      refine jr_if_lt rfl (fun m1 => ?_) (fun m1 => ?_)
      · refine jr_ic rfl ?_
        refine jr_iret rfl rfl (Nat.zero_le _) (Nat.zero_le _) ?_
        first
          | (exfalso; omega)
          | (exfalso; simp (disch := omega) only [Int32.lt_iff_toInt_lt, Int32.le_iff_toInt_le, ← Int32.toInt_inj, Int32.reduceToInt, nI_toInt] at c1 m1; done)
          | (exfalso; simp (disch := omega) only [Int32.lt_iff_toInt_lt, Int32.le_iff_toInt_le, ← Int32.toInt_inj, Int32.reduceToInt, nI_toInt] at c1 m1; omega)
      · refine jr_iload rfl rfl ?_
        refine jr_aload rfl rfl ?_
        refine jr_getI rfl rfl ?_
        refine jr_icmp_le rfl (fun m5 => ?_) (fun m5 => ?_)
        · refine jr_aload rfl rfl ?_
          refine jr_iload rfl rfl ?_
          refine jr_putI rfl rfl ?_
          refine jr_iload rfl rfl ?_
          refine jr_iret rfl rfl (Nat.zero_le _) (Nat.zero_le _) ?_
          first
            | (exfalso; omega)
            | (exfalso; simp (disch := omega) only [Int32.lt_iff_toInt_lt, Int32.le_iff_toInt_le, ← Int32.toInt_inj, Int32.reduceToInt, nI_toInt] at c1 m1 m5; done)
            | (exfalso; simp (disch := omega) only [Int32.lt_iff_toInt_lt, Int32.le_iff_toInt_le, ← Int32.toInt_inj, Int32.reduceToInt, nI_toInt] at c1 m1 m5; omega)
        · refine jr_ic rfl ?_
          refine jr_iret rfl rfl (Nat.zero_le _) (Nat.zero_le _) ?_
          first
            | (exfalso; omega)
            | (exfalso; simp (disch := omega) only [Int32.lt_iff_toInt_lt, Int32.le_iff_toInt_le, ← Int32.toInt_inj, Int32.reduceToInt, nI_toInt] at c1 m1 m5; done)
            | (exfalso; simp (disch := omega) only [Int32.lt_iff_toInt_lt, Int32.le_iff_toInt_le, ← Int32.toInt_inj, Int32.reduceToInt, nI_toInt] at c1 m1 m5; omega)
    · refine jr_iload rfl rfl ?_
      refine jr_aload rfl rfl ?_
      refine jr_getR rfl rfl rfl rfl (Or.inl rfl) ?_
      refine jr_getI rfl rfl ?_
      refine jr_icmp_le rfl (fun c6 => ?_) (fun c6 => ?_)
      · refine jr_aload rfl rfl ?_
        refine jr_getR rfl rfl rfl rfl (Or.inl rfl) ?_
        refine jr_iload rfl rfl ?_
        refine jr_putI rfl rfl ?_
        refine jr_iload rfl rfl ?_
        refine jr_iret rfl rfl (Nat.zero_le _) (Nat.zero_le _) ?_
        show jx_W (jm_MD_end, d + 40, 0, 0, false, 1, _) _ 0 0 0 [some _, some _] [] _
        refine jr_iload rfl rfl ?_
        refine jr_if_lt rfl (fun m1 => ?_) (fun m1 => ?_)
        · refine jr_ic rfl ?_
          refine jr_iret rfl rfl (Nat.zero_le _) (Nat.zero_le _) ?_
          first
            | (exfalso; omega)
            | (exfalso; simp (disch := omega) only [Int32.lt_iff_toInt_lt, Int32.le_iff_toInt_le, ← Int32.toInt_inj, Int32.reduceToInt, nI_toInt] at c1 c6 m1; done)
            | (exfalso; simp (disch := omega) only [Int32.lt_iff_toInt_lt, Int32.le_iff_toInt_le, ← Int32.toInt_inj, Int32.reduceToInt, nI_toInt] at c1 c6 m1; omega)
        · refine jr_iload rfl rfl ?_
          refine jr_aload rfl rfl ?_
          refine jr_getI rfl rfl ?_
          refine jr_icmp_le rfl (fun m5 => ?_) (fun m5 => ?_)
          · refine jr_aload rfl rfl ?_
            refine jr_iload rfl rfl ?_
            refine jr_putI rfl rfl ?_
            refine jr_iload rfl rfl ?_
            refine jr_iret rfl rfl (Nat.zero_le _) (Nat.zero_le _) ?_
            exact ⟨rfl, b, r, hC0, ⟨i, rfl, rfl, by omega, fun j hj => t4 j (by omega)⟩, hFa, hLy, hTi, hLe, hBo, (jz_Ac_t (jN_u _ _ _ _ rfl) ⟨rfl, rfl⟩ ⟨rfl, rfl⟩ ⟨rfl, rfl, rfl, rfl⟩ ⟨rfl, rfl⟩ hAc), hWo⟩
          · refine jr_ic rfl ?_
            refine jr_iret rfl rfl (Nat.zero_le _) (Nat.zero_le _) ?_
            first
              | (exfalso; omega)
              | (exfalso; simp (disch := omega) only [Int32.lt_iff_toInt_lt, Int32.le_iff_toInt_le, ← Int32.toInt_inj, Int32.reduceToInt, nI_toInt] at c1 c6 m1 m5; done)
              | (exfalso; simp (disch := omega) only [Int32.lt_iff_toInt_lt, Int32.le_iff_toInt_le, ← Int32.toInt_inj, Int32.reduceToInt, nI_toInt] at c1 c6 m1 m5; omega)
      · refine jr_ic rfl ?_
        refine jr_iret rfl rfl (Nat.zero_le _) (Nat.zero_le _) ?_
        show jx_W (jm_MD_end, d + 40, 0, 0, false, 1, _) _ 0 0 0 [some _, some _] [] _
        refine jr_iload rfl rfl ?_
        refine jr_if_lt rfl (fun m1 => ?_) (fun m1 => ?_)
        · refine jr_ic rfl ?_
          refine jr_iret rfl rfl (Nat.zero_le _) (Nat.zero_le _) ?_
          first
            | (exfalso; omega)
            | (exfalso; simp (disch := omega) only [Int32.lt_iff_toInt_lt, Int32.le_iff_toInt_le, ← Int32.toInt_inj, Int32.reduceToInt, nI_toInt] at c1 c6 m1; done)
            | (exfalso; simp (disch := omega) only [Int32.lt_iff_toInt_lt, Int32.le_iff_toInt_le, ← Int32.toInt_inj, Int32.reduceToInt, nI_toInt] at c1 c6 m1; omega)
        · refine jr_iload rfl rfl ?_
          refine jr_aload rfl rfl ?_
          refine jr_getI rfl rfl ?_
          refine jr_icmp_le rfl (fun m5 => ?_) (fun m5 => ?_)
          · refine jr_aload rfl rfl ?_
            refine jr_iload rfl rfl ?_
            refine jr_putI rfl rfl ?_
            refine jr_iload rfl rfl ?_
            refine jr_iret rfl rfl (Nat.zero_le _) (Nat.zero_le _) ?_
            first
              | (exfalso; omega)
              | (exfalso; simp (disch := omega) only [Int32.lt_iff_toInt_lt, Int32.le_iff_toInt_le, ← Int32.toInt_inj, Int32.reduceToInt, nI_toInt] at c1 c6 m1 m5; done)
              | (exfalso; simp (disch := omega) only [Int32.lt_iff_toInt_lt, Int32.le_iff_toInt_le, ← Int32.toInt_inj, Int32.reduceToInt, nI_toInt] at c1 c6 m1 m5; omega)
          · refine jr_ic rfl ?_
            refine jr_iret rfl rfl (Nat.zero_le _) (Nat.zero_le _) ?_
            first
              | (exfalso; omega)
              | (exfalso; simp (disch := omega) only [Int32.lt_iff_toInt_lt, Int32.le_iff_toInt_le, ← Int32.toInt_inj, Int32.reduceToInt, nI_toInt] at c1 c6 m1 m5; done)
              | (exfalso; simp (disch := omega) only [Int32.lt_iff_toInt_lt, Int32.le_iff_toInt_le, ← Int32.toInt_inj, Int32.reduceToInt, nI_toInt] at c1 c6 m1 m5; omega)
  · show jx_W (jm_JV_end, d + 40, 0, 0, false, 0, _) _ 0 0 0 [some (jv_r 10 0), some (jv_i x)] [] _
    refine jr_iload rfl rfl ?_
    refine jr_if_lt rfl (fun c1 => ?_) (fun c1 => ?_)
    · refine jr_ic rfl ?_
      refine jr_iret rfl rfl (Nat.zero_le _) (Nat.zero_le _) ?_
      show jx_W (jm_MD_end, d + 40, 0, 0, false, 1, _) _ 0 0 0 [some _, some _] [] _
      refine jr_iload rfl rfl ?_
      refine jr_if_lt rfl (fun m1 => ?_) (fun m1 => ?_)
      · refine jr_ic rfl ?_
        refine jr_iret rfl rfl (Nat.zero_le _) (Nat.zero_le _) ?_
        exact ⟨rfl, hRel0⟩
      · refine jr_iload rfl rfl ?_
        refine jr_aload rfl rfl ?_
        refine jr_getI rfl rfl ?_
        refine jr_icmp_le rfl (fun m5 => ?_) (fun m5 => ?_)
        · refine jr_aload rfl rfl ?_
          refine jr_iload rfl rfl ?_
          refine jr_putI rfl rfl ?_
          refine jr_iload rfl rfl ?_
          refine jr_iret rfl rfl (Nat.zero_le _) (Nat.zero_le _) ?_
          first
            | (exfalso; omega)
            | (exfalso; simp (disch := omega) only [Int32.lt_iff_toInt_lt, Int32.le_iff_toInt_le, ← Int32.toInt_inj, Int32.reduceToInt, nI_toInt] at c1 m1 m5; done)
            | (exfalso; simp (disch := omega) only [Int32.lt_iff_toInt_lt, Int32.le_iff_toInt_le, ← Int32.toInt_inj, Int32.reduceToInt, nI_toInt] at c1 m1 m5; omega)
        · refine jr_ic rfl ?_
          refine jr_iret rfl rfl (Nat.zero_le _) (Nat.zero_le _) ?_
          exact ⟨rfl, hRel0⟩
    · refine jr_iload rfl rfl ?_
      refine jr_aload rfl rfl ?_
      refine jr_getR rfl rfl rfl rfl (Or.inl rfl) ?_
      refine jr_getI rfl rfl ?_
      refine jr_icmp_le rfl (fun c6 => ?_) (fun c6 => ?_)
      · refine jr_aload rfl rfl ?_
        refine jr_getR rfl rfl rfl rfl (Or.inl rfl) ?_
        refine jr_iload rfl rfl ?_
        refine jr_putI rfl rfl ?_
        refine jr_iload rfl rfl ?_
        refine jr_iret rfl rfl (Nat.zero_le _) (Nat.zero_le _) ?_
        show jx_W (jm_MD_end, d + 40, 0, 0, false, 1, _) _ 0 0 0 [some _, some _] [] _
        refine jr_iload rfl rfl ?_
        refine jr_if_lt rfl (fun m1 => ?_) (fun m1 => ?_)
        · refine jr_ic rfl ?_
          refine jr_iret rfl rfl (Nat.zero_le _) (Nat.zero_le _) ?_
          first
            | (exfalso; omega)
            | (exfalso; simp (disch := omega) only [Int32.lt_iff_toInt_lt, Int32.le_iff_toInt_le, ← Int32.toInt_inj, Int32.reduceToInt, nI_toInt] at c1 c6 m1; done)
            | (exfalso; simp (disch := omega) only [Int32.lt_iff_toInt_lt, Int32.le_iff_toInt_le, ← Int32.toInt_inj, Int32.reduceToInt, nI_toInt] at c1 c6 m1; omega)
        · refine jr_iload rfl rfl ?_
          refine jr_aload rfl rfl ?_
          refine jr_getI rfl rfl ?_
          refine jr_icmp_le rfl (fun m5 => ?_) (fun m5 => ?_)
          · refine jr_aload rfl rfl ?_
            refine jr_iload rfl rfl ?_
            refine jr_putI rfl rfl ?_
            refine jr_iload rfl rfl ?_
            refine jr_iret rfl rfl (Nat.zero_le _) (Nat.zero_le _) ?_
            first
              | (exfalso; omega)
              | (exfalso; simp (disch := omega) only [Int32.lt_iff_toInt_lt, Int32.le_iff_toInt_le, ← Int32.toInt_inj, Int32.reduceToInt, nI_toInt] at c1 c6 m1 m5; done)
              | (exfalso; simp (disch := omega) only [Int32.lt_iff_toInt_lt, Int32.le_iff_toInt_le, ← Int32.toInt_inj, Int32.reduceToInt, nI_toInt] at c1 c6 m1 m5; omega)
          · refine jr_ic rfl ?_
            refine jr_iret rfl rfl (Nat.zero_le _) (Nat.zero_le _) ?_
            first
              | (exfalso; omega)
              | (exfalso; simp (disch := omega) only [Int32.lt_iff_toInt_lt, Int32.le_iff_toInt_le, ← Int32.toInt_inj, Int32.reduceToInt, nI_toInt] at c1 c6 m1 m5; done)
              | (exfalso; simp (disch := omega) only [Int32.lt_iff_toInt_lt, Int32.le_iff_toInt_le, ← Int32.toInt_inj, Int32.reduceToInt, nI_toInt] at c1 c6 m1 m5; omega)
      · refine jr_ic rfl ?_
        refine jr_iret rfl rfl (Nat.zero_le _) (Nat.zero_le _) ?_
        show jx_W (jm_MD_end, d + 40, 0, 0, false, 1, _) _ 0 0 0 [some _, some _] [] _
        refine jr_iload rfl rfl ?_
        refine jr_if_lt rfl (fun m1 => ?_) (fun m1 => ?_)
        · refine jr_ic rfl ?_
          refine jr_iret rfl rfl (Nat.zero_le _) (Nat.zero_le _) ?_
          exact ⟨rfl, hRel0⟩
        · refine jr_iload rfl rfl ?_
          refine jr_aload rfl rfl ?_
          refine jr_getI rfl rfl ?_
          refine jr_icmp_le rfl (fun m5 => ?_) (fun m5 => ?_)
          · refine jr_aload rfl rfl ?_
            refine jr_iload rfl rfl ?_
            refine jr_putI rfl rfl ?_
            refine jr_iload rfl rfl ?_
            refine jr_iret rfl rfl (Nat.zero_le _) (Nat.zero_le _) ?_
            first
              | (exfalso; omega)
              | (exfalso; simp (disch := omega) only [Int32.lt_iff_toInt_lt, Int32.le_iff_toInt_le, ← Int32.toInt_inj, Int32.reduceToInt, nI_toInt] at c1 c6 m1 m5; done)
              | (exfalso; simp (disch := omega) only [Int32.lt_iff_toInt_lt, Int32.le_iff_toInt_le, ← Int32.toInt_inj, Int32.reduceToInt, nI_toInt] at c1 c6 m1 m5; omega)
          · refine jr_ic rfl ?_
            refine jr_iret rfl rfl (Nat.zero_le _) (Nat.zero_le _) ?_
            exact ⟨rfl, hRel0⟩

set_option maxHeartbeats 800000 in
set_option maxRecDepth 100000 in
theorem pd_later {d : Nat} {hc hm : jx_H} {x : Int32} (hRel : jz_Rel hc hm) : jx_Ev jm_JV_later (d + 40) 0 0 false 0 [jv_r 10 0, jv_i x] hc (fun r hc' => jx_Ev jm_MD_later (d + 40) 0 0 false 1 [jv_r 11 0, jv_i x] hm (fun r' hm' => r = r' ∧ jz_Rel hc' hm')) := by
  have hRel0 := hRel
  obtain ⟨b, r, ⟨hw, hG, hr2, hto, hsp, hR, hA, hL⟩, hTa, hFa, hLy, hTi, hLe, hBo, hAc, hWo⟩ := hRel
  have hb2 := hw.2.1
  have hTi0 := hTi
  obtain ⟨t, t1, t2, t3⟩ := hTi0
  have g1 := jz_gi t2 (by omega)
  have g2 := jz_gi t3 (by omega)
  have hC0 : jz_C hc hm b r := ⟨hw, hG, hr2, hto, hsp, hR, hA, hL⟩
  rcases nI_dec' x 0 1000 (by omega) with ⟨i, rfl, -, hi, hi2⟩ | hi
  · have e1 : jh_I hc 10 0 14 + nI i = nI (t + i) := by rw [t2, nI_add]
    have e2 : jh_I hm 11 0 81 + nI i = nI (t + i) := by rw [t3, nI_add]
    have g3 := jz_gi e1 (by omega)
    have g4 := jz_gi e2 (by omega)
    show jx_W (jm_JV_later, d + 40, 0, 0, false, 0, _) _ 0 0 0 [some (jv_r 10 0), some (jv_i (nI i))] [] _
    refine jr_iload rfl rfl ?_
    refine jr_if_lt rfl (fun c1 => ?_) (fun c1 => ?_)
    · refine jr_ic rfl ?_
      refine jr_iret rfl rfl (Nat.zero_le _) (Nat.zero_le _) ?_
      show jx_W (jm_MD_later, d + 40, 0, 0, false, 1, _) _ 0 0 0 [some _, some _] [] _
      refine jr_iload rfl rfl ?_
      refine jr_ic rfl ?_
      refine jr_ic rfl ?_
      refine jr_cs3 (mc' := 0) (ms' := 0) rfl jm_MD_isIn_n jm_MD_isIn_f rfl rfl rfl rfl rfl (Nat.zero_le _) (Nat.zero_le _) ?_
      show jx_W (jm_MD_isIn, _, _, _, _, _, _) _ 0 0 0 [some _, some _, some _] [] _
      refine jr_iload rfl rfl ?_
      refine jr_iload rfl rfl ?_
      refine jr_icmp_lt rfl (fun m2MDisIn => ?_) (fun m2MDisIn => ?_)
      · refine jr_ic rfl ?_
        refine jr_zret rfl rfl rfl (Nat.zero_le _) (Nat.zero_le _) ?_
        refine jr_if_eq rfl (fun _ => ?_) (fun z => absurd (by decide) z)
        refine jr_ic rfl ?_
        refine jr_iret rfl rfl (Nat.zero_le _) (Nat.zero_le _) ?_
        exact ⟨rfl, hRel0⟩
      · refine jr_iload rfl rfl ?_
        refine jr_iload rfl rfl ?_
        refine jr_icmp_gt rfl (fun m5MDisIn => ?_) (fun m5MDisIn => ?_)
        · refine jr_ic rfl ?_
          refine jr_zret rfl rfl rfl (Nat.zero_le _) (Nat.zero_le _) ?_
          refine jr_if_eq rfl (fun _ => ?_) (fun z => absurd (by decide) z)
          refine jr_ic rfl ?_
          refine jr_iret rfl rfl (Nat.zero_le _) (Nat.zero_le _) ?_
          exact ⟨rfl, hRel0⟩
        · refine jr_ic rfl ?_
          refine jr_goto rfl ?_
          refine jr_zret rfl rfl rfl (Nat.zero_le _) (Nat.zero_le _) ?_
          refine jr_if_eq rfl (fun z => absurd z (by decide)) (fun _ => ?_)
          refine jr_aload rfl rfl ?_
          refine jr_getI rfl rfl ?_
          refine jr_iload rfl rfl ?_
          refine jr_iadd rfl ?_
          refine jr_ic rfl ?_
          refine jr_icmp_le rfl (fun m10 => ?_) (fun m10 => ?_)
          · refine jr_aload rfl rfl ?_
            refine jr_dup_r rfl ?_
            refine jr_getI rfl rfl ?_
            refine jr_iload rfl rfl ?_
            refine jr_iadd rfl ?_
            refine jr_putI rfl rfl ?_
            refine jr_aload rfl rfl ?_
            refine jr_getI rfl rfl ?_
            refine jr_iret rfl rfl (Nat.zero_le _) (Nat.zero_le _) ?_
            first
              | (exfalso; omega)
              | (exfalso; simp (disch := omega) only [Int32.lt_iff_toInt_lt, Int32.le_iff_toInt_le, ← Int32.toInt_inj, Int32.reduceToInt, nI_toInt] at c1 m2MDisIn m5MDisIn m10; done)
              | (exfalso; simp (disch := omega) only [Int32.lt_iff_toInt_lt, Int32.le_iff_toInt_le, ← Int32.toInt_inj, Int32.reduceToInt, nI_toInt] at c1 m2MDisIn m5MDisIn m10; omega)
          · refine jr_ic rfl ?_
            refine jr_iret rfl rfl (Nat.zero_le _) (Nat.zero_le _) ?_
            exact ⟨rfl, hRel0⟩
    · refine jr_iload rfl rfl ?_
      refine jr_ic rfl ?_
      refine jr_icmp_gt rfl (fun c4 => ?_) (fun c4 => ?_)
      · refine jr_ic rfl ?_
        refine jr_iret rfl rfl (Nat.zero_le _) (Nat.zero_le _) ?_
        show jx_W (jm_MD_later, d + 40, 0, 0, false, 1, _) _ 0 0 0 [some _, some _] [] _
        refine jr_iload rfl rfl ?_
        refine jr_ic rfl ?_
        refine jr_ic rfl ?_
        refine jr_cs3 (mc' := 0) (ms' := 0) rfl jm_MD_isIn_n jm_MD_isIn_f rfl rfl rfl rfl rfl (Nat.zero_le _) (Nat.zero_le _) ?_
        show jx_W (jm_MD_isIn, _, _, _, _, _, _) _ 0 0 0 [some _, some _, some _] [] _
        refine jr_iload rfl rfl ?_
        refine jr_iload rfl rfl ?_
        refine jr_icmp_lt rfl (fun m2MDisIn => ?_) (fun m2MDisIn => ?_)
        · refine jr_ic rfl ?_
          refine jr_zret rfl rfl rfl (Nat.zero_le _) (Nat.zero_le _) ?_
          refine jr_if_eq rfl (fun _ => ?_) (fun z => absurd (by decide) z)
          refine jr_ic rfl ?_
          refine jr_iret rfl rfl (Nat.zero_le _) (Nat.zero_le _) ?_
          exact ⟨rfl, hRel0⟩
        · refine jr_iload rfl rfl ?_
          refine jr_iload rfl rfl ?_
          refine jr_icmp_gt rfl (fun m5MDisIn => ?_) (fun m5MDisIn => ?_)
          · refine jr_ic rfl ?_
            refine jr_zret rfl rfl rfl (Nat.zero_le _) (Nat.zero_le _) ?_
            refine jr_if_eq rfl (fun _ => ?_) (fun z => absurd (by decide) z)
            refine jr_ic rfl ?_
            refine jr_iret rfl rfl (Nat.zero_le _) (Nat.zero_le _) ?_
            exact ⟨rfl, hRel0⟩
          · refine jr_ic rfl ?_
            refine jr_goto rfl ?_
            refine jr_zret rfl rfl rfl (Nat.zero_le _) (Nat.zero_le _) ?_
            refine jr_if_eq rfl (fun z => absurd z (by decide)) (fun _ => ?_)
            refine jr_aload rfl rfl ?_
            refine jr_getI rfl rfl ?_
            refine jr_iload rfl rfl ?_
            refine jr_iadd rfl ?_
            refine jr_ic rfl ?_
            refine jr_icmp_le rfl (fun m10 => ?_) (fun m10 => ?_)
            · refine jr_aload rfl rfl ?_
              refine jr_dup_r rfl ?_
              refine jr_getI rfl rfl ?_
              refine jr_iload rfl rfl ?_
              refine jr_iadd rfl ?_
              refine jr_putI rfl rfl ?_
              refine jr_aload rfl rfl ?_
              refine jr_getI rfl rfl ?_
              refine jr_iret rfl rfl (Nat.zero_le _) (Nat.zero_le _) ?_
              first
                | (exfalso; omega)
                | (exfalso; simp (disch := omega) only [Int32.lt_iff_toInt_lt, Int32.le_iff_toInt_le, ← Int32.toInt_inj, Int32.reduceToInt, nI_toInt] at c1 c4 m2MDisIn m5MDisIn m10; done)
                | (exfalso; simp (disch := omega) only [Int32.lt_iff_toInt_lt, Int32.le_iff_toInt_le, ← Int32.toInt_inj, Int32.reduceToInt, nI_toInt] at c1 c4 m2MDisIn m5MDisIn m10; omega)
            · refine jr_ic rfl ?_
              refine jr_iret rfl rfl (Nat.zero_le _) (Nat.zero_le _) ?_
              exact ⟨rfl, hRel0⟩
      · refine jr_aload rfl rfl ?_
        refine jr_getI rfl rfl ?_
        refine jr_iload rfl rfl ?_
        refine jr_iadd rfl ?_
        refine jr_ic rfl ?_
        refine jr_icmp_le rfl (fun c10 => ?_) (fun c10 => ?_)
        · refine jr_aload rfl rfl ?_
          refine jr_dup_r rfl ?_
          refine jr_getI rfl rfl ?_
          refine jr_iload rfl rfl ?_
          refine jr_iadd rfl ?_
          refine jr_putI rfl rfl ?_
          refine jr_aload rfl rfl ?_
          refine jr_getI rfl rfl ?_
          refine jr_iret rfl rfl (Nat.zero_le _) (Nat.zero_le _) ?_
          show jx_W (jm_MD_later, d + 40, 0, 0, false, 1, _) _ 0 0 0 [some _, some _] [] _
          refine jr_iload rfl rfl ?_
          refine jr_ic rfl ?_
          refine jr_ic rfl ?_
          refine jr_cs3 (mc' := 0) (ms' := 0) rfl jm_MD_isIn_n jm_MD_isIn_f rfl rfl rfl rfl rfl (Nat.zero_le _) (Nat.zero_le _) ?_
          show jx_W (jm_MD_isIn, _, _, _, _, _, _) _ 0 0 0 [some _, some _, some _] [] _
          refine jr_iload rfl rfl ?_
          refine jr_iload rfl rfl ?_
          refine jr_icmp_lt rfl (fun m2MDisIn => ?_) (fun m2MDisIn => ?_)
          · refine jr_ic rfl ?_
            refine jr_zret rfl rfl rfl (Nat.zero_le _) (Nat.zero_le _) ?_
            refine jr_if_eq rfl (fun _ => ?_) (fun z => absurd (by decide) z)
            refine jr_ic rfl ?_
            refine jr_iret rfl rfl (Nat.zero_le _) (Nat.zero_le _) ?_
            first
              | (exfalso; omega)
              | (exfalso; simp (disch := omega) only [Int32.lt_iff_toInt_lt, Int32.le_iff_toInt_le, ← Int32.toInt_inj, Int32.reduceToInt, nI_toInt] at c1 c4 c10 m2MDisIn; done)
              | (exfalso; simp (disch := omega) only [Int32.lt_iff_toInt_lt, Int32.le_iff_toInt_le, ← Int32.toInt_inj, Int32.reduceToInt, nI_toInt] at c1 c4 c10 m2MDisIn; omega)
          · refine jr_iload rfl rfl ?_
            refine jr_iload rfl rfl ?_
            refine jr_icmp_gt rfl (fun m5MDisIn => ?_) (fun m5MDisIn => ?_)
            · refine jr_ic rfl ?_
              refine jr_zret rfl rfl rfl (Nat.zero_le _) (Nat.zero_le _) ?_
              refine jr_if_eq rfl (fun _ => ?_) (fun z => absurd (by decide) z)
              refine jr_ic rfl ?_
              refine jr_iret rfl rfl (Nat.zero_le _) (Nat.zero_le _) ?_
              first
                | (exfalso; omega)
                | (exfalso; simp (disch := omega) only [Int32.lt_iff_toInt_lt, Int32.le_iff_toInt_le, ← Int32.toInt_inj, Int32.reduceToInt, nI_toInt] at c1 c4 c10 m2MDisIn m5MDisIn; done)
                | (exfalso; simp (disch := omega) only [Int32.lt_iff_toInt_lt, Int32.le_iff_toInt_le, ← Int32.toInt_inj, Int32.reduceToInt, nI_toInt] at c1 c4 c10 m2MDisIn m5MDisIn; omega)
            · refine jr_ic rfl ?_
              refine jr_goto rfl ?_
              refine jr_zret rfl rfl rfl (Nat.zero_le _) (Nat.zero_le _) ?_
              refine jr_if_eq rfl (fun z => absurd z (by decide)) (fun _ => ?_)
              refine jr_aload rfl rfl ?_
              refine jr_getI rfl rfl ?_
              refine jr_iload rfl rfl ?_
              refine jr_iadd rfl ?_
              refine jr_ic rfl ?_
              refine jr_icmp_le rfl (fun m10 => ?_) (fun m10 => ?_)
              · refine jr_aload rfl rfl ?_
                refine jr_dup_r rfl ?_
                refine jr_getI rfl rfl ?_
                refine jr_iload rfl rfl ?_
                refine jr_iadd rfl ?_
                refine jr_putI rfl rfl ?_
                refine jr_aload rfl rfl ?_
                refine jr_getI rfl rfl ?_
                refine jr_iret rfl rfl (Nat.zero_le _) (Nat.zero_le _) ?_
                have w1 : jh_I (ju_I hc 10 0 (upd (jh_I hc 10 0) 14 (jh_I hc 10 0 14 + nI i))) 10 0 14 = nI (t + i) := e1
                have w2 : jh_I (ju_I hm 11 0 (upd (jh_I hm 11 0) 81 (jh_I hm 11 0 81 + nI i))) 11 0 81 = nI (t + i) := e2
                refine ⟨congrArg (fun z => some (jv_i z)) (w1.trans w2.symm), b, r, hC0, hTa, hFa, hLy, ⟨t + i, ?_, w1, w2⟩, hLe, hBo, (jz_Ac_t (jN_u _ _ _ _ rfl) ⟨rfl, rfl⟩ ⟨rfl, rfl⟩ ⟨rfl, rfl, rfl, rfl⟩ ⟨rfl, rfl⟩ hAc), hWo⟩
                simp (disch := omega) only [Int32.lt_iff_toInt_lt, Int32.le_iff_toInt_le, ← Int32.toInt_inj, Int32.reduceToInt, nI_toInt] at c1 c4 c10 m2MDisIn m5MDisIn m10
                omega
              · refine jr_ic rfl ?_
                refine jr_iret rfl rfl (Nat.zero_le _) (Nat.zero_le _) ?_
                first
                  | (exfalso; omega)
                  | (exfalso; simp (disch := omega) only [Int32.lt_iff_toInt_lt, Int32.le_iff_toInt_le, ← Int32.toInt_inj, Int32.reduceToInt, nI_toInt] at c1 c4 c10 m2MDisIn m5MDisIn m10; done)
                  | (exfalso; simp (disch := omega) only [Int32.lt_iff_toInt_lt, Int32.le_iff_toInt_le, ← Int32.toInt_inj, Int32.reduceToInt, nI_toInt] at c1 c4 c10 m2MDisIn m5MDisIn m10; omega)
        · refine jr_ic rfl ?_
          refine jr_iret rfl rfl (Nat.zero_le _) (Nat.zero_le _) ?_
          show jx_W (jm_MD_later, d + 40, 0, 0, false, 1, _) _ 0 0 0 [some _, some _] [] _
          refine jr_iload rfl rfl ?_
          refine jr_ic rfl ?_
          refine jr_ic rfl ?_
          refine jr_cs3 (mc' := 0) (ms' := 0) rfl jm_MD_isIn_n jm_MD_isIn_f rfl rfl rfl rfl rfl (Nat.zero_le _) (Nat.zero_le _) ?_
          show jx_W (jm_MD_isIn, _, _, _, _, _, _) _ 0 0 0 [some _, some _, some _] [] _
          refine jr_iload rfl rfl ?_
          refine jr_iload rfl rfl ?_
          refine jr_icmp_lt rfl (fun m2MDisIn => ?_) (fun m2MDisIn => ?_)
          · refine jr_ic rfl ?_
            refine jr_zret rfl rfl rfl (Nat.zero_le _) (Nat.zero_le _) ?_
            refine jr_if_eq rfl (fun _ => ?_) (fun z => absurd (by decide) z)
            refine jr_ic rfl ?_
            refine jr_iret rfl rfl (Nat.zero_le _) (Nat.zero_le _) ?_
            exact ⟨rfl, hRel0⟩
          · refine jr_iload rfl rfl ?_
            refine jr_iload rfl rfl ?_
            refine jr_icmp_gt rfl (fun m5MDisIn => ?_) (fun m5MDisIn => ?_)
            · refine jr_ic rfl ?_
              refine jr_zret rfl rfl rfl (Nat.zero_le _) (Nat.zero_le _) ?_
              refine jr_if_eq rfl (fun _ => ?_) (fun z => absurd (by decide) z)
              refine jr_ic rfl ?_
              refine jr_iret rfl rfl (Nat.zero_le _) (Nat.zero_le _) ?_
              exact ⟨rfl, hRel0⟩
            · refine jr_ic rfl ?_
              refine jr_goto rfl ?_
              refine jr_zret rfl rfl rfl (Nat.zero_le _) (Nat.zero_le _) ?_
              refine jr_if_eq rfl (fun z => absurd z (by decide)) (fun _ => ?_)
              refine jr_aload rfl rfl ?_
              refine jr_getI rfl rfl ?_
              refine jr_iload rfl rfl ?_
              refine jr_iadd rfl ?_
              refine jr_ic rfl ?_
              refine jr_icmp_le rfl (fun m10 => ?_) (fun m10 => ?_)
              · refine jr_aload rfl rfl ?_
                refine jr_dup_r rfl ?_
                refine jr_getI rfl rfl ?_
                refine jr_iload rfl rfl ?_
                refine jr_iadd rfl ?_
                refine jr_putI rfl rfl ?_
                refine jr_aload rfl rfl ?_
                refine jr_getI rfl rfl ?_
                refine jr_iret rfl rfl (Nat.zero_le _) (Nat.zero_le _) ?_
                first
                  | (exfalso; omega)
                  | (exfalso; simp (disch := omega) only [Int32.lt_iff_toInt_lt, Int32.le_iff_toInt_le, ← Int32.toInt_inj, Int32.reduceToInt, nI_toInt] at c1 c4 c10 m2MDisIn m5MDisIn m10; done)
                  | (exfalso; simp (disch := omega) only [Int32.lt_iff_toInt_lt, Int32.le_iff_toInt_le, ← Int32.toInt_inj, Int32.reduceToInt, nI_toInt] at c1 c4 c10 m2MDisIn m5MDisIn m10; omega)
              · refine jr_ic rfl ?_
                refine jr_iret rfl rfl (Nat.zero_le _) (Nat.zero_le _) ?_
                exact ⟨rfl, hRel0⟩
  · show jx_W (jm_JV_later, d + 40, 0, 0, false, 0, _) _ 0 0 0 [some (jv_r 10 0), some (jv_i x)] [] _
    refine jr_iload rfl rfl ?_
    refine jr_if_lt rfl (fun c1 => ?_) (fun c1 => ?_)
    · refine jr_ic rfl ?_
      refine jr_iret rfl rfl (Nat.zero_le _) (Nat.zero_le _) ?_
      show jx_W (jm_MD_later, d + 40, 0, 0, false, 1, _) _ 0 0 0 [some _, some _] [] _
      refine jr_iload rfl rfl ?_
      refine jr_ic rfl ?_
      refine jr_ic rfl ?_
      refine jr_cs3 (mc' := 0) (ms' := 0) rfl jm_MD_isIn_n jm_MD_isIn_f rfl rfl rfl rfl rfl (Nat.zero_le _) (Nat.zero_le _) ?_
      show jx_W (jm_MD_isIn, _, _, _, _, _, _) _ 0 0 0 [some _, some _, some _] [] _
      refine jr_iload rfl rfl ?_
      refine jr_iload rfl rfl ?_
      refine jr_icmp_lt rfl (fun m2MDisIn => ?_) (fun m2MDisIn => ?_)
      · refine jr_ic rfl ?_
        refine jr_zret rfl rfl rfl (Nat.zero_le _) (Nat.zero_le _) ?_
        refine jr_if_eq rfl (fun _ => ?_) (fun z => absurd (by decide) z)
        refine jr_ic rfl ?_
        refine jr_iret rfl rfl (Nat.zero_le _) (Nat.zero_le _) ?_
        exact ⟨rfl, hRel0⟩
      · refine jr_iload rfl rfl ?_
        refine jr_iload rfl rfl ?_
        refine jr_icmp_gt rfl (fun m5MDisIn => ?_) (fun m5MDisIn => ?_)
        · refine jr_ic rfl ?_
          refine jr_zret rfl rfl rfl (Nat.zero_le _) (Nat.zero_le _) ?_
          refine jr_if_eq rfl (fun _ => ?_) (fun z => absurd (by decide) z)
          refine jr_ic rfl ?_
          refine jr_iret rfl rfl (Nat.zero_le _) (Nat.zero_le _) ?_
          exact ⟨rfl, hRel0⟩
        · refine jr_ic rfl ?_
          refine jr_goto rfl ?_
          refine jr_zret rfl rfl rfl (Nat.zero_le _) (Nat.zero_le _) ?_
          refine jr_if_eq rfl (fun z => absurd z (by decide)) (fun _ => ?_)
          refine jr_aload rfl rfl ?_
          refine jr_getI rfl rfl ?_
          refine jr_iload rfl rfl ?_
          refine jr_iadd rfl ?_
          refine jr_ic rfl ?_
          refine jr_icmp_le rfl (fun m10 => ?_) (fun m10 => ?_)
          · refine jr_aload rfl rfl ?_
            refine jr_dup_r rfl ?_
            refine jr_getI rfl rfl ?_
            refine jr_iload rfl rfl ?_
            refine jr_iadd rfl ?_
            refine jr_putI rfl rfl ?_
            refine jr_aload rfl rfl ?_
            refine jr_getI rfl rfl ?_
            refine jr_iret rfl rfl (Nat.zero_le _) (Nat.zero_le _) ?_
            first
              | (exfalso; omega)
              | (exfalso; simp (disch := omega) only [Int32.lt_iff_toInt_lt, Int32.le_iff_toInt_le, ← Int32.toInt_inj, Int32.reduceToInt, nI_toInt] at c1 m2MDisIn m5MDisIn m10; done)
              | (exfalso; simp (disch := omega) only [Int32.lt_iff_toInt_lt, Int32.le_iff_toInt_le, ← Int32.toInt_inj, Int32.reduceToInt, nI_toInt] at c1 m2MDisIn m5MDisIn m10; omega)
          · refine jr_ic rfl ?_
            refine jr_iret rfl rfl (Nat.zero_le _) (Nat.zero_le _) ?_
            exact ⟨rfl, hRel0⟩
    · refine jr_iload rfl rfl ?_
      refine jr_ic rfl ?_
      refine jr_icmp_gt rfl (fun c4 => ?_) (fun c4 => ?_)
      · refine jr_ic rfl ?_
        refine jr_iret rfl rfl (Nat.zero_le _) (Nat.zero_le _) ?_
        show jx_W (jm_MD_later, d + 40, 0, 0, false, 1, _) _ 0 0 0 [some _, some _] [] _
        refine jr_iload rfl rfl ?_
        refine jr_ic rfl ?_
        refine jr_ic rfl ?_
        refine jr_cs3 (mc' := 0) (ms' := 0) rfl jm_MD_isIn_n jm_MD_isIn_f rfl rfl rfl rfl rfl (Nat.zero_le _) (Nat.zero_le _) ?_
        show jx_W (jm_MD_isIn, _, _, _, _, _, _) _ 0 0 0 [some _, some _, some _] [] _
        refine jr_iload rfl rfl ?_
        refine jr_iload rfl rfl ?_
        refine jr_icmp_lt rfl (fun m2MDisIn => ?_) (fun m2MDisIn => ?_)
        · refine jr_ic rfl ?_
          refine jr_zret rfl rfl rfl (Nat.zero_le _) (Nat.zero_le _) ?_
          refine jr_if_eq rfl (fun _ => ?_) (fun z => absurd (by decide) z)
          refine jr_ic rfl ?_
          refine jr_iret rfl rfl (Nat.zero_le _) (Nat.zero_le _) ?_
          exact ⟨rfl, hRel0⟩
        · refine jr_iload rfl rfl ?_
          refine jr_iload rfl rfl ?_
          refine jr_icmp_gt rfl (fun m5MDisIn => ?_) (fun m5MDisIn => ?_)
          · refine jr_ic rfl ?_
            refine jr_zret rfl rfl rfl (Nat.zero_le _) (Nat.zero_le _) ?_
            refine jr_if_eq rfl (fun _ => ?_) (fun z => absurd (by decide) z)
            refine jr_ic rfl ?_
            refine jr_iret rfl rfl (Nat.zero_le _) (Nat.zero_le _) ?_
            exact ⟨rfl, hRel0⟩
          · refine jr_ic rfl ?_
            refine jr_goto rfl ?_
            refine jr_zret rfl rfl rfl (Nat.zero_le _) (Nat.zero_le _) ?_
            refine jr_if_eq rfl (fun z => absurd z (by decide)) (fun _ => ?_)
            refine jr_aload rfl rfl ?_
            refine jr_getI rfl rfl ?_
            refine jr_iload rfl rfl ?_
            refine jr_iadd rfl ?_
            refine jr_ic rfl ?_
            refine jr_icmp_le rfl (fun m10 => ?_) (fun m10 => ?_)
            · refine jr_aload rfl rfl ?_
              refine jr_dup_r rfl ?_
              refine jr_getI rfl rfl ?_
              refine jr_iload rfl rfl ?_
              refine jr_iadd rfl ?_
              refine jr_putI rfl rfl ?_
              refine jr_aload rfl rfl ?_
              refine jr_getI rfl rfl ?_
              refine jr_iret rfl rfl (Nat.zero_le _) (Nat.zero_le _) ?_
              first
                | (exfalso; omega)
                | (exfalso; simp (disch := omega) only [Int32.lt_iff_toInt_lt, Int32.le_iff_toInt_le, ← Int32.toInt_inj, Int32.reduceToInt, nI_toInt] at c1 c4 m2MDisIn m5MDisIn m10; done)
                | (exfalso; simp (disch := omega) only [Int32.lt_iff_toInt_lt, Int32.le_iff_toInt_le, ← Int32.toInt_inj, Int32.reduceToInt, nI_toInt] at c1 c4 m2MDisIn m5MDisIn m10; omega)
            · refine jr_ic rfl ?_
              refine jr_iret rfl rfl (Nat.zero_le _) (Nat.zero_le _) ?_
              exact ⟨rfl, hRel0⟩
      · refine jr_aload rfl rfl ?_
        refine jr_getI rfl rfl ?_
        refine jr_iload rfl rfl ?_
        refine jr_iadd rfl ?_
        refine jr_ic rfl ?_
        refine jr_icmp_le rfl (fun c10 => ?_) (fun c10 => ?_)
        · refine jr_aload rfl rfl ?_
          refine jr_dup_r rfl ?_
          refine jr_getI rfl rfl ?_
          refine jr_iload rfl rfl ?_
          refine jr_iadd rfl ?_
          refine jr_putI rfl rfl ?_
          refine jr_aload rfl rfl ?_
          refine jr_getI rfl rfl ?_
          refine jr_iret rfl rfl (Nat.zero_le _) (Nat.zero_le _) ?_
          show jx_W (jm_MD_later, d + 40, 0, 0, false, 1, _) _ 0 0 0 [some _, some _] [] _
          refine jr_iload rfl rfl ?_
          refine jr_ic rfl ?_
          refine jr_ic rfl ?_
          refine jr_cs3 (mc' := 0) (ms' := 0) rfl jm_MD_isIn_n jm_MD_isIn_f rfl rfl rfl rfl rfl (Nat.zero_le _) (Nat.zero_le _) ?_
          show jx_W (jm_MD_isIn, _, _, _, _, _, _) _ 0 0 0 [some _, some _, some _] [] _
          refine jr_iload rfl rfl ?_
          refine jr_iload rfl rfl ?_
          refine jr_icmp_lt rfl (fun m2MDisIn => ?_) (fun m2MDisIn => ?_)
          · refine jr_ic rfl ?_
            refine jr_zret rfl rfl rfl (Nat.zero_le _) (Nat.zero_le _) ?_
            refine jr_if_eq rfl (fun _ => ?_) (fun z => absurd (by decide) z)
            refine jr_ic rfl ?_
            refine jr_iret rfl rfl (Nat.zero_le _) (Nat.zero_le _) ?_
            first
              | (exfalso; omega)
              | (exfalso; simp (disch := omega) only [Int32.lt_iff_toInt_lt, Int32.le_iff_toInt_le, ← Int32.toInt_inj, Int32.reduceToInt, nI_toInt] at c1 c4 c10 m2MDisIn; done)
              | (exfalso; simp (disch := omega) only [Int32.lt_iff_toInt_lt, Int32.le_iff_toInt_le, ← Int32.toInt_inj, Int32.reduceToInt, nI_toInt] at c1 c4 c10 m2MDisIn; omega)
          · refine jr_iload rfl rfl ?_
            refine jr_iload rfl rfl ?_
            refine jr_icmp_gt rfl (fun m5MDisIn => ?_) (fun m5MDisIn => ?_)
            · refine jr_ic rfl ?_
              refine jr_zret rfl rfl rfl (Nat.zero_le _) (Nat.zero_le _) ?_
              refine jr_if_eq rfl (fun _ => ?_) (fun z => absurd (by decide) z)
              refine jr_ic rfl ?_
              refine jr_iret rfl rfl (Nat.zero_le _) (Nat.zero_le _) ?_
              first
                | (exfalso; omega)
                | (exfalso; simp (disch := omega) only [Int32.lt_iff_toInt_lt, Int32.le_iff_toInt_le, ← Int32.toInt_inj, Int32.reduceToInt, nI_toInt] at c1 c4 c10 m2MDisIn m5MDisIn; done)
                | (exfalso; simp (disch := omega) only [Int32.lt_iff_toInt_lt, Int32.le_iff_toInt_le, ← Int32.toInt_inj, Int32.reduceToInt, nI_toInt] at c1 c4 c10 m2MDisIn m5MDisIn; omega)
            · refine jr_ic rfl ?_
              refine jr_goto rfl ?_
              refine jr_zret rfl rfl rfl (Nat.zero_le _) (Nat.zero_le _) ?_
              refine jr_if_eq rfl (fun z => absurd z (by decide)) (fun _ => ?_)
              refine jr_aload rfl rfl ?_
              refine jr_getI rfl rfl ?_
              refine jr_iload rfl rfl ?_
              refine jr_iadd rfl ?_
              refine jr_ic rfl ?_
              refine jr_icmp_le rfl (fun m10 => ?_) (fun m10 => ?_)
              · refine jr_aload rfl rfl ?_
                refine jr_dup_r rfl ?_
                refine jr_getI rfl rfl ?_
                refine jr_iload rfl rfl ?_
                refine jr_iadd rfl ?_
                refine jr_putI rfl rfl ?_
                refine jr_aload rfl rfl ?_
                refine jr_getI rfl rfl ?_
                refine jr_iret rfl rfl (Nat.zero_le _) (Nat.zero_le _) ?_
                first
                  | (exfalso; omega)
                  | (exfalso; simp (disch := omega) only [Int32.lt_iff_toInt_lt, Int32.le_iff_toInt_le, ← Int32.toInt_inj, Int32.reduceToInt, nI_toInt] at c1 c4 c10 m2MDisIn m5MDisIn m10; done)
                  | (exfalso; simp (disch := omega) only [Int32.lt_iff_toInt_lt, Int32.le_iff_toInt_le, ← Int32.toInt_inj, Int32.reduceToInt, nI_toInt] at c1 c4 c10 m2MDisIn m5MDisIn m10; omega)
              · refine jr_ic rfl ?_
                refine jr_iret rfl rfl (Nat.zero_le _) (Nat.zero_le _) ?_
                first
                  | (exfalso; omega)
                  | (exfalso; simp (disch := omega) only [Int32.lt_iff_toInt_lt, Int32.le_iff_toInt_le, ← Int32.toInt_inj, Int32.reduceToInt, nI_toInt] at c1 c4 c10 m2MDisIn m5MDisIn m10; done)
                  | (exfalso; simp (disch := omega) only [Int32.lt_iff_toInt_lt, Int32.le_iff_toInt_le, ← Int32.toInt_inj, Int32.reduceToInt, nI_toInt] at c1 c4 c10 m2MDisIn m5MDisIn m10; omega)
        · refine jr_ic rfl ?_
          refine jr_iret rfl rfl (Nat.zero_le _) (Nat.zero_le _) ?_
          show jx_W (jm_MD_later, d + 40, 0, 0, false, 1, _) _ 0 0 0 [some _, some _] [] _
          refine jr_iload rfl rfl ?_
          refine jr_ic rfl ?_
          refine jr_ic rfl ?_
          refine jr_cs3 (mc' := 0) (ms' := 0) rfl jm_MD_isIn_n jm_MD_isIn_f rfl rfl rfl rfl rfl (Nat.zero_le _) (Nat.zero_le _) ?_
          show jx_W (jm_MD_isIn, _, _, _, _, _, _) _ 0 0 0 [some _, some _, some _] [] _
          refine jr_iload rfl rfl ?_
          refine jr_iload rfl rfl ?_
          refine jr_icmp_lt rfl (fun m2MDisIn => ?_) (fun m2MDisIn => ?_)
          · refine jr_ic rfl ?_
            refine jr_zret rfl rfl rfl (Nat.zero_le _) (Nat.zero_le _) ?_
            refine jr_if_eq rfl (fun _ => ?_) (fun z => absurd (by decide) z)
            refine jr_ic rfl ?_
            refine jr_iret rfl rfl (Nat.zero_le _) (Nat.zero_le _) ?_
            exact ⟨rfl, hRel0⟩
          · refine jr_iload rfl rfl ?_
            refine jr_iload rfl rfl ?_
            refine jr_icmp_gt rfl (fun m5MDisIn => ?_) (fun m5MDisIn => ?_)
            · refine jr_ic rfl ?_
              refine jr_zret rfl rfl rfl (Nat.zero_le _) (Nat.zero_le _) ?_
              refine jr_if_eq rfl (fun _ => ?_) (fun z => absurd (by decide) z)
              refine jr_ic rfl ?_
              refine jr_iret rfl rfl (Nat.zero_le _) (Nat.zero_le _) ?_
              exact ⟨rfl, hRel0⟩
            · refine jr_ic rfl ?_
              refine jr_goto rfl ?_
              refine jr_zret rfl rfl rfl (Nat.zero_le _) (Nat.zero_le _) ?_
              refine jr_if_eq rfl (fun z => absurd z (by decide)) (fun _ => ?_)
              refine jr_aload rfl rfl ?_
              refine jr_getI rfl rfl ?_
              refine jr_iload rfl rfl ?_
              refine jr_iadd rfl ?_
              refine jr_ic rfl ?_
              refine jr_icmp_le rfl (fun m10 => ?_) (fun m10 => ?_)
              · refine jr_aload rfl rfl ?_
                refine jr_dup_r rfl ?_
                refine jr_getI rfl rfl ?_
                refine jr_iload rfl rfl ?_
                refine jr_iadd rfl ?_
                refine jr_putI rfl rfl ?_
                refine jr_aload rfl rfl ?_
                refine jr_getI rfl rfl ?_
                refine jr_iret rfl rfl (Nat.zero_le _) (Nat.zero_le _) ?_
                first
                  | (exfalso; omega)
                  | (exfalso; simp (disch := omega) only [Int32.lt_iff_toInt_lt, Int32.le_iff_toInt_le, ← Int32.toInt_inj, Int32.reduceToInt, nI_toInt] at c1 c4 c10 m2MDisIn m5MDisIn m10; done)
                  | (exfalso; simp (disch := omega) only [Int32.lt_iff_toInt_lt, Int32.le_iff_toInt_le, ← Int32.toInt_inj, Int32.reduceToInt, nI_toInt] at c1 c4 c10 m2MDisIn m5MDisIn m10; omega)
              · refine jr_ic rfl ?_
                refine jr_iret rfl rfl (Nat.zero_le _) (Nat.zero_le _) ?_
                exact ⟨rfl, hRel0⟩

set_option maxHeartbeats 800000 in
set_option maxRecDepth 100000 in
theorem pd_about_0 {d : Nat} {hc hm : jx_H} (hRel : jz_Rel hc hm) : jx_Ev jm_JV_about (d + 40) 0 0 false 0 [jv_r 10 0, jv_i 0] hc (fun r hc' => jx_Ev jm_MD_about (d + 40) 0 0 false 1 [jv_r 11 0, jv_i 0] hm (fun r' hm' => r = r' ∧ jz_Rel hc' hm')) := by
  have hRel0 := hRel
  obtain ⟨b, r, ⟨hw, hG, hr2, hto, hsp, hR, hA, hL⟩, hTa, hFa, hLy, hTi, hLe, hBo, hAc, hWo⟩ := hRel
  have hb2 := hw.2.1
  have e0 : jh_I hc 7 r 0 = jh_I hm 66 0 b := hR.1
  have e1 : jh_I hc 7 r 3 = jh_I hm 67 0 b := hR.2.1
  have e2 : jh_I hc 7 r 5 = jh_I hm 68 0 b := hR.2.2.1
  have e3 : jh_I hc 1 0 2 = jh_I hm 98 0 0 := hA.2.1
  have e4 : jh_I hc 1 0 3 = jh_I hm 98 0 1 := hA.2.2.1
  have e12 : jh_I hc 7 r 12 = jh_I hm 69 0 b := hR.2.2.2.2.2.2.2.2.2.2.2.1
  
  skip
  show jx_W (jm_JV_about, d + 40, 0, 0, false, 0, _) _ 0 0 0 [some (jv_r 10 0), some (jv_i 0)] [] _
  refine jr_iload rfl rfl ?_
  refine jr_tsw rfl ?_
  refine ⟨fun _ => ?_, fun z => absurd (by decide) z⟩
  refine jr_aload rfl rfl ?_
  refine jr_getM rfl rfl rfl rfl hto ?_
  refine jr_getI rfl rfl ?_
  refine jr_iret rfl rfl (Nat.zero_le _) (Nat.zero_le _) ?_
  show jx_W (jm_MD_about, d + 40, 0, 0, false, 1, _) _ 0 0 0 [some _, some _] [] _
  refine jr_iload rfl rfl ?_
  refine jr_tsw rfl ?_
  refine ⟨fun _ => ?_, fun z => absurd (by decide) z⟩
  refine jr_aload rfl rfl ?_
  refine jr_getR rfl rfl rfl rfl (Or.inl rfl) ?_
  refine jr_aload rfl rfl ?_
  refine jr_getI rfl rfl ?_
  refine jr_iald (len := 2) rfl rfl hw.1 (by omega) ?_
  refine jr_iret rfl rfl (Nat.zero_le _) (Nat.zero_le _) ?_
  exact ⟨congrArg (fun z => some (jv_i z)) e0, hRel0⟩

set_option maxHeartbeats 800000 in
set_option maxRecDepth 100000 in
theorem pd_about_1 {d : Nat} {hc hm : jx_H} (hRel : jz_Rel hc hm) : jx_Ev jm_JV_about (d + 40) 0 0 false 0 [jv_r 10 0, jv_i 1] hc (fun r hc' => jx_Ev jm_MD_about (d + 40) 0 0 false 1 [jv_r 11 0, jv_i 1] hm (fun r' hm' => r = r' ∧ jz_Rel hc' hm')) := by
  have hRel0 := hRel
  obtain ⟨b, r, ⟨hw, hG, hr2, hto, hsp, hR, hA, hL⟩, hTa, hFa, hLy, hTi, hLe, hBo, hAc, hWo⟩ := hRel
  have hb2 := hw.2.1
  have e0 : jh_I hc 7 r 0 = jh_I hm 66 0 b := hR.1
  have e1 : jh_I hc 7 r 3 = jh_I hm 67 0 b := hR.2.1
  have e2 : jh_I hc 7 r 5 = jh_I hm 68 0 b := hR.2.2.1
  have e3 : jh_I hc 1 0 2 = jh_I hm 98 0 0 := hA.2.1
  have e4 : jh_I hc 1 0 3 = jh_I hm 98 0 1 := hA.2.2.1
  have e12 : jh_I hc 7 r 12 = jh_I hm 69 0 b := hR.2.2.2.2.2.2.2.2.2.2.2.1
  
  skip
  show jx_W (jm_JV_about, d + 40, 0, 0, false, 0, _) _ 0 0 0 [some (jv_r 10 0), some (jv_i 1)] [] _
  refine jr_iload rfl rfl ?_
  refine jr_tsw rfl ?_
  refine ⟨fun z => absurd z (by decide), fun _ => ?_⟩
  refine ⟨fun _ => ?_, fun z => absurd (by decide) z⟩
  refine jr_aload rfl rfl ?_
  refine jr_getM rfl rfl rfl rfl hto ?_
  refine jr_getI rfl rfl ?_
  refine jr_iret rfl rfl (Nat.zero_le _) (Nat.zero_le _) ?_
  show jx_W (jm_MD_about, d + 40, 0, 0, false, 1, _) _ 0 0 0 [some _, some _] [] _
  refine jr_iload rfl rfl ?_
  refine jr_tsw rfl ?_
  refine ⟨fun z => absurd z (by decide), fun _ => ?_⟩
  refine ⟨fun _ => ?_, fun z => absurd (by decide) z⟩
  refine jr_aload rfl rfl ?_
  refine jr_cv0 (mc' := 0) (ms' := 0) rfl jm_MD_personMany_n jm_MD_personMany_f rfl rfl rfl rfl rfl rfl rfl (Nat.zero_le _) (Nat.zero_le _) ?_
  show jx_W (jm_MD_personMany, _, _, _, _, _, _) _ 0 0 0 [some _] [] _
  refine jr_aload rfl rfl ?_
  refine jr_getR rfl rfl rfl rfl (Or.inl rfl) ?_
  refine jr_aload rfl rfl ?_
  refine jr_getI rfl rfl ?_
  refine jr_iald (len := 2) rfl rfl hw.1 (by omega) ?_
  refine jr_iret rfl rfl (Nat.zero_le _) (Nat.zero_le _) ?_
  refine jr_iret rfl rfl (Nat.zero_le _) (Nat.zero_le _) ?_
  exact ⟨congrArg (fun z => some (jv_i z)) e1, hRel0⟩

set_option maxHeartbeats 800000 in
set_option maxRecDepth 100000 in
theorem pd_about_2 {d : Nat} {hc hm : jx_H} (hRel : jz_Rel hc hm) : jx_Ev jm_JV_about (d + 40) 0 0 false 0 [jv_r 10 0, jv_i 2] hc (fun r hc' => jx_Ev jm_MD_about (d + 40) 0 0 false 1 [jv_r 11 0, jv_i 2] hm (fun r' hm' => r = r' ∧ jz_Rel hc' hm')) := by
  have hRel0 := hRel
  obtain ⟨b, r, ⟨hw, hG, hr2, hto, hsp, hR, hA, hL⟩, hTa, hFa, hLy, hTi, hLe, hBo, hAc, hWo⟩ := hRel
  have hb2 := hw.2.1
  have e0 : jh_I hc 7 r 0 = jh_I hm 66 0 b := hR.1
  have e1 : jh_I hc 7 r 3 = jh_I hm 67 0 b := hR.2.1
  have e2 : jh_I hc 7 r 5 = jh_I hm 68 0 b := hR.2.2.1
  have e3 : jh_I hc 1 0 2 = jh_I hm 98 0 0 := hA.2.1
  have e4 : jh_I hc 1 0 3 = jh_I hm 98 0 1 := hA.2.2.1
  have e12 : jh_I hc 7 r 12 = jh_I hm 69 0 b := hR.2.2.2.2.2.2.2.2.2.2.2.1
  
  skip
  show jx_W (jm_JV_about, d + 40, 0, 0, false, 0, _) _ 0 0 0 [some (jv_r 10 0), some (jv_i 2)] [] _
  refine jr_iload rfl rfl ?_
  refine jr_tsw rfl ?_
  refine ⟨fun z => absurd z (by decide), fun _ => ?_⟩
  refine ⟨fun z => absurd z (by decide), fun _ => ?_⟩
  refine ⟨fun _ => ?_, fun z => absurd (by decide) z⟩
  refine jr_aload rfl rfl ?_
  refine jr_getM rfl rfl rfl rfl hto ?_
  refine jr_getI rfl rfl ?_
  refine jr_iret rfl rfl (Nat.zero_le _) (Nat.zero_le _) ?_
  show jx_W (jm_MD_about, d + 40, 0, 0, false, 1, _) _ 0 0 0 [some _, some _] [] _
  refine jr_iload rfl rfl ?_
  refine jr_tsw rfl ?_
  refine ⟨fun z => absurd z (by decide), fun _ => ?_⟩
  refine ⟨fun z => absurd z (by decide), fun _ => ?_⟩
  refine ⟨fun _ => ?_, fun z => absurd (by decide) z⟩
  refine jr_aload rfl rfl ?_
  refine jr_cv0 (mc' := 0) (ms' := 0) rfl jm_MD_dueMany_n jm_MD_dueMany_f rfl rfl rfl rfl rfl rfl rfl (Nat.zero_le _) (Nat.zero_le _) ?_
  show jx_W (jm_MD_dueMany, _, _, _, _, _, _) _ 0 0 0 [some _] [] _
  refine jr_aload rfl rfl ?_
  refine jr_getR rfl rfl rfl rfl (Or.inl rfl) ?_
  refine jr_aload rfl rfl ?_
  refine jr_getI rfl rfl ?_
  refine jr_iald (len := 2) rfl rfl hw.1 (by omega) ?_
  refine jr_iret rfl rfl (Nat.zero_le _) (Nat.zero_le _) ?_
  refine jr_iret rfl rfl (Nat.zero_le _) (Nat.zero_le _) ?_
  exact ⟨congrArg (fun z => some (jv_i z)) e2, hRel0⟩

set_option maxHeartbeats 800000 in
set_option maxRecDepth 100000 in
theorem pd_about_3 {d : Nat} {hc hm : jx_H} (hRel : jz_Rel hc hm) : jx_Ev jm_JV_about (d + 40) 0 0 false 0 [jv_r 10 0, jv_i 3] hc (fun r hc' => jx_Ev jm_MD_about (d + 40) 0 0 false 1 [jv_r 11 0, jv_i 3] hm (fun r' hm' => r = r' ∧ jz_Rel hc' hm')) := by
  have hRel0 := hRel
  obtain ⟨b, r, ⟨hw, hG, hr2, hto, hsp, hR, hA, hL⟩, hTa, hFa, hLy, hTi, hLe, hBo, hAc, hWo⟩ := hRel
  have hb2 := hw.2.1
  have e0 : jh_I hc 7 r 0 = jh_I hm 66 0 b := hR.1
  have e1 : jh_I hc 7 r 3 = jh_I hm 67 0 b := hR.2.1
  have e2 : jh_I hc 7 r 5 = jh_I hm 68 0 b := hR.2.2.1
  have e3 : jh_I hc 1 0 2 = jh_I hm 98 0 0 := hA.2.1
  have e4 : jh_I hc 1 0 3 = jh_I hm 98 0 1 := hA.2.2.1
  have e12 : jh_I hc 7 r 12 = jh_I hm 69 0 b := hR.2.2.2.2.2.2.2.2.2.2.2.1
  
  skip
  show jx_W (jm_JV_about, d + 40, 0, 0, false, 0, _) _ 0 0 0 [some (jv_r 10 0), some (jv_i 3)] [] _
  refine jr_iload rfl rfl ?_
  refine jr_tsw rfl ?_
  refine ⟨fun z => absurd z (by decide), fun _ => ?_⟩
  refine ⟨fun z => absurd z (by decide), fun _ => ?_⟩
  refine ⟨fun z => absurd z (by decide), fun _ => ?_⟩
  refine ⟨fun _ => ?_, fun z => absurd (by decide) z⟩
  refine jr_aload rfl rfl ?_
  refine jr_getR rfl rfl rfl rfl (Or.inl rfl) ?_
  refine jr_getI rfl rfl ?_
  refine jr_iret rfl rfl (Nat.zero_le _) (Nat.zero_le _) ?_
  show jx_W (jm_MD_about, d + 40, 0, 0, false, 1, _) _ 0 0 0 [some _, some _] [] _
  refine jr_iload rfl rfl ?_
  refine jr_tsw rfl ?_
  refine ⟨fun z => absurd z (by decide), fun _ => ?_⟩
  refine ⟨fun z => absurd z (by decide), fun _ => ?_⟩
  refine ⟨fun z => absurd z (by decide), fun _ => ?_⟩
  refine ⟨fun _ => ?_, fun z => absurd (by decide) z⟩
  refine jr_aload rfl rfl ?_
  refine jr_getR rfl rfl rfl rfl (Or.inl rfl) ?_
  refine jr_ic rfl ?_
  refine jr_iald (len := 337) rfl rfl (show _ = nI 0 from rfl) (by decide) ?_
  refine jr_iret rfl rfl (Nat.zero_le _) (Nat.zero_le _) ?_
  exact ⟨congrArg (fun z => some (jv_i z)) e3, hRel0⟩

set_option maxHeartbeats 800000 in
set_option maxRecDepth 100000 in
theorem pd_about_4 {d : Nat} {hc hm : jx_H} (hRel : jz_Rel hc hm) : jx_Ev jm_JV_about (d + 40) 0 0 false 0 [jv_r 10 0, jv_i 4] hc (fun r hc' => jx_Ev jm_MD_about (d + 40) 0 0 false 1 [jv_r 11 0, jv_i 4] hm (fun r' hm' => r = r' ∧ jz_Rel hc' hm')) := by
  have hRel0 := hRel
  obtain ⟨b, r, ⟨hw, hG, hr2, hto, hsp, hR, hA, hL⟩, hTa, hFa, hLy, hTi, hLe, hBo, hAc, hWo⟩ := hRel
  have hb2 := hw.2.1
  have e0 : jh_I hc 7 r 0 = jh_I hm 66 0 b := hR.1
  have e1 : jh_I hc 7 r 3 = jh_I hm 67 0 b := hR.2.1
  have e2 : jh_I hc 7 r 5 = jh_I hm 68 0 b := hR.2.2.1
  have e3 : jh_I hc 1 0 2 = jh_I hm 98 0 0 := hA.2.1
  have e4 : jh_I hc 1 0 3 = jh_I hm 98 0 1 := hA.2.2.1
  have e12 : jh_I hc 7 r 12 = jh_I hm 69 0 b := hR.2.2.2.2.2.2.2.2.2.2.2.1
  
  skip
  show jx_W (jm_JV_about, d + 40, 0, 0, false, 0, _) _ 0 0 0 [some (jv_r 10 0), some (jv_i 4)] [] _
  refine jr_iload rfl rfl ?_
  refine jr_tsw rfl ?_
  refine ⟨fun z => absurd z (by decide), fun _ => ?_⟩
  refine ⟨fun z => absurd z (by decide), fun _ => ?_⟩
  refine ⟨fun z => absurd z (by decide), fun _ => ?_⟩
  refine ⟨fun z => absurd z (by decide), fun _ => ?_⟩
  refine ⟨fun _ => ?_, fun z => absurd (by decide) z⟩
  refine jr_aload rfl rfl ?_
  refine jr_getR rfl rfl rfl rfl (Or.inl rfl) ?_
  refine jr_getI rfl rfl ?_
  refine jr_iret rfl rfl (Nat.zero_le _) (Nat.zero_le _) ?_
  show jx_W (jm_MD_about, d + 40, 0, 0, false, 1, _) _ 0 0 0 [some _, some _] [] _
  refine jr_iload rfl rfl ?_
  refine jr_tsw rfl ?_
  refine ⟨fun z => absurd z (by decide), fun _ => ?_⟩
  refine ⟨fun z => absurd z (by decide), fun _ => ?_⟩
  refine ⟨fun z => absurd z (by decide), fun _ => ?_⟩
  refine ⟨fun z => absurd z (by decide), fun _ => ?_⟩
  refine ⟨fun _ => ?_, fun z => absurd (by decide) z⟩
  refine jr_aload rfl rfl ?_
  refine jr_getR rfl rfl rfl rfl (Or.inl rfl) ?_
  refine jr_ic rfl ?_
  refine jr_iald (len := 337) rfl rfl (show _ = nI 1 from rfl) (by decide) ?_
  refine jr_iret rfl rfl (Nat.zero_le _) (Nat.zero_le _) ?_
  exact ⟨congrArg (fun z => some (jv_i z)) e4, hRel0⟩

set_option maxHeartbeats 800000 in
set_option maxRecDepth 100000 in
theorem pd_about_5 {d : Nat} {hc hm : jx_H} (hRel : jz_Rel hc hm) : jx_Ev jm_JV_about (d + 40) 0 0 false 0 [jv_r 10 0, jv_i 5] hc (fun r hc' => jx_Ev jm_MD_about (d + 40) 0 0 false 1 [jv_r 11 0, jv_i 5] hm (fun r' hm' => r = r' ∧ jz_Rel hc' hm')) := by
  have hRel0 := hRel
  obtain ⟨b, r, ⟨hw, hG, hr2, hto, hsp, hR, hA, hL⟩, hTa, hFa, hLy, hTi, hLe, hBo, hAc, hWo⟩ := hRel
  have hb2 := hw.2.1
  have hnm := hw.2.2.1.1
  have hnm5 := hnm.2
  have km1 : (jh_I hc 7 r 0).toInt = (jz_nm hm b : Int) := by rw [hR.1]; exact (congrArg Int32.toInt hnm.1).trans (nI_toInt (by omega))
  have km2 : (jh_I hm 66 0 b).toInt = (jz_nm hm b : Int) := (congrArg Int32.toInt hnm.1).trans (nI_toInt (by omega))
  have km3 : (jh_I hm 66 0 b - 1).toInt = (jz_nm hm b : Int) - 1 := by rw [Int32.toInt_sub, km2, show (1 : Int32).toInt = 1 from rfl]; exact jn_sm (by omega) (by omega)
  have e0 : jh_I hc 7 r 0 = jh_I hm 66 0 b := hR.1
  have e1 : jh_I hc 7 r 3 = jh_I hm 67 0 b := hR.2.1
  have e2 : jh_I hc 7 r 5 = jh_I hm 68 0 b := hR.2.2.1
  have e3 : jh_I hc 1 0 2 = jh_I hm 98 0 0 := hA.2.1
  have e4 : jh_I hc 1 0 3 = jh_I hm 98 0 1 := hA.2.2.1
  have e12 : jh_I hc 7 r 12 = jh_I hm 69 0 b := hR.2.2.2.2.2.2.2.2.2.2.2.1
  have z0 : (0 : Int32).toInt = 0 := rfl
  skip
  show jx_W (jm_JV_about, d + 40, 0, 0, false, 0, _) _ 0 0 0 [some (jv_r 10 0), some (jv_i 5)] [] _
  refine jr_iload rfl rfl ?_
  refine jr_tsw rfl ?_
  refine ⟨fun z => absurd z (by decide), fun _ => ?_⟩
  refine ⟨fun z => absurd z (by decide), fun _ => ?_⟩
  refine ⟨fun z => absurd z (by decide), fun _ => ?_⟩
  refine ⟨fun z => absurd z (by decide), fun _ => ?_⟩
  refine ⟨fun z => absurd z (by decide), fun _ => ?_⟩
  refine ⟨fun _ => ?_, fun z => absurd (by decide) z⟩
  refine jr_aload rfl rfl ?_
  refine jr_getR rfl rfl rfl rfl (Or.inl rfl) ?_
  refine jr_cv0 (mc' := 0) (ms' := 0) rfl jm_Cal_nextYear_n jm_Cal_nextYear_f rfl rfl rfl rfl rfl rfl rfl (Nat.zero_le _) (Nat.zero_le _) ?_
  show jx_W (jm_Cal_nextYear, _, _, _, _, _, _) _ 0 0 0 [some _] [] _
  refine jr_aload rfl rfl ?_
  refine jr_getM rfl rfl rfl rfl hA.1 ?_
  refine jr_getI rfl rfl ?_
  refine jr_if_le rfl (fun c3CalnextYear => ?_) (fun c3CalnextYear => ?_)
  · refine jr_ic rfl ?_
    refine jr_iret rfl rfl (Nat.zero_le _) (Nat.zero_le _) ?_
    refine jr_iret rfl rfl (Nat.zero_le _) (Nat.zero_le _) ?_
    show jx_W (jm_MD_about, d + 40, 0, 0, false, 1, _) _ 0 0 0 [some _, some _] [] _
    refine jr_iload rfl rfl ?_
    refine jr_tsw rfl ?_
    refine ⟨fun z => absurd z (by decide), fun _ => ?_⟩
    refine ⟨fun z => absurd z (by decide), fun _ => ?_⟩
    refine ⟨fun z => absurd z (by decide), fun _ => ?_⟩
    refine ⟨fun z => absurd z (by decide), fun _ => ?_⟩
    refine ⟨fun z => absurd z (by decide), fun _ => ?_⟩
    refine ⟨fun _ => ?_, fun z => absurd (by decide) z⟩
    refine jr_aload rfl rfl ?_
    refine jr_cv0 (mc' := 0) (ms' := 0) rfl jm_MD_hasMonths_n jm_MD_hasMonths_f rfl rfl rfl rfl rfl rfl rfl (Nat.zero_le _) (Nat.zero_le _) ?_
    show jx_W (jm_MD_hasMonths, _, _, _, _, _, _) _ 0 0 0 [some _] [] _
    refine jr_aload rfl rfl ?_
    refine jr_getR rfl rfl rfl rfl (Or.inl rfl) ?_
    refine jr_aload rfl rfl ?_
    refine jr_getI rfl rfl ?_
    refine jr_iald (len := 2) rfl rfl hw.1 (by omega) ?_
    refine jr_if_le rfl (fun m5MDhasMonths => ?_) (fun m5MDhasMonths => ?_)
    · refine jr_ic rfl ?_
      refine jr_zret rfl rfl rfl (Nat.zero_le _) (Nat.zero_le _) ?_
      refine jr_if_eq rfl (fun _ => ?_) (fun z => absurd (by decide) z)
      refine jr_ic rfl ?_
      refine jr_iret rfl rfl (Nat.zero_le _) (Nat.zero_le _) ?_
      first
        | exact ⟨rfl, hRel0⟩
        | (refine ⟨congrArg (fun z => some (jv_i z)) ?_, hRel0⟩; rw [e3, e0]; done)
        | (exfalso; simp (disch := omega) only [Int32.lt_iff_toInt_lt, Int32.le_iff_toInt_le, ← Int32.toInt_inj, Int32.reduceToInt, nI_toInt] at c3CalnextYear m5MDhasMonths; omega)
    · refine jr_ic rfl ?_
      refine jr_goto rfl ?_
      refine jr_zret rfl rfl rfl (Nat.zero_le _) (Nat.zero_le _) ?_
      refine jr_if_eq rfl (fun z => absurd z (by decide)) (fun _ => ?_)
      refine jr_aload rfl rfl ?_
      refine jr_getR rfl rfl rfl rfl (Or.inl rfl) ?_
      refine jr_ic rfl ?_
      refine jr_iald (len := 337) rfl rfl (show _ = nI 0 from rfl) (by decide) ?_
      refine jr_aload rfl rfl ?_
      refine jr_getR rfl rfl rfl rfl (Or.inl rfl) ?_
      refine jr_aload rfl rfl ?_
      refine jr_getI rfl rfl ?_
      refine jr_iald (len := 2) rfl rfl hw.1 (by omega) ?_
      refine jr_idiv rfl (fun z => m5MDhasMonths (by rw [z]; decide)) ?_
      refine jr_goto rfl ?_
      refine jr_iret rfl rfl (Nat.zero_le _) (Nat.zero_le _) ?_
      first
        | exact ⟨rfl, hRel0⟩
        | (refine ⟨congrArg (fun z => some (jv_i z)) ?_, hRel0⟩; rw [e3, e0]; done)
        | (exfalso; simp (disch := omega) only [Int32.lt_iff_toInt_lt, Int32.le_iff_toInt_le, ← Int32.toInt_inj, Int32.reduceToInt, nI_toInt] at c3CalnextYear m5MDhasMonths; omega)
  · refine jr_aload rfl rfl ?_
    refine jr_getI rfl rfl ?_
    refine jr_aload rfl rfl ?_
    refine jr_getM rfl rfl rfl rfl hA.1 ?_
    refine jr_getI rfl rfl ?_
    refine jr_idiv rfl (fun z => c3CalnextYear (by rw [z]; decide)) ?_
    refine jr_goto rfl ?_
    refine jr_iret rfl rfl (Nat.zero_le _) (Nat.zero_le _) ?_
    refine jr_iret rfl rfl (Nat.zero_le _) (Nat.zero_le _) ?_
    show jx_W (jm_MD_about, d + 40, 0, 0, false, 1, _) _ 0 0 0 [some _, some _] [] _
    refine jr_iload rfl rfl ?_
    refine jr_tsw rfl ?_
    refine ⟨fun z => absurd z (by decide), fun _ => ?_⟩
    refine ⟨fun z => absurd z (by decide), fun _ => ?_⟩
    refine ⟨fun z => absurd z (by decide), fun _ => ?_⟩
    refine ⟨fun z => absurd z (by decide), fun _ => ?_⟩
    refine ⟨fun z => absurd z (by decide), fun _ => ?_⟩
    refine ⟨fun _ => ?_, fun z => absurd (by decide) z⟩
    refine jr_aload rfl rfl ?_
    refine jr_cv0 (mc' := 0) (ms' := 0) rfl jm_MD_hasMonths_n jm_MD_hasMonths_f rfl rfl rfl rfl rfl rfl rfl (Nat.zero_le _) (Nat.zero_le _) ?_
    show jx_W (jm_MD_hasMonths, _, _, _, _, _, _) _ 0 0 0 [some _] [] _
    refine jr_aload rfl rfl ?_
    refine jr_getR rfl rfl rfl rfl (Or.inl rfl) ?_
    refine jr_aload rfl rfl ?_
    refine jr_getI rfl rfl ?_
    refine jr_iald (len := 2) rfl rfl hw.1 (by omega) ?_
    refine jr_if_le rfl (fun m5MDhasMonths => ?_) (fun m5MDhasMonths => ?_)
    · refine jr_ic rfl ?_
      refine jr_zret rfl rfl rfl (Nat.zero_le _) (Nat.zero_le _) ?_
      refine jr_if_eq rfl (fun _ => ?_) (fun z => absurd (by decide) z)
      refine jr_ic rfl ?_
      refine jr_iret rfl rfl (Nat.zero_le _) (Nat.zero_le _) ?_
      first
        | exact ⟨rfl, hRel0⟩
        | (refine ⟨congrArg (fun z => some (jv_i z)) ?_, hRel0⟩; rw [e3, e0]; done)
        | (exfalso; simp (disch := omega) only [Int32.lt_iff_toInt_lt, Int32.le_iff_toInt_le, ← Int32.toInt_inj, Int32.reduceToInt, nI_toInt] at c3CalnextYear m5MDhasMonths; omega)
    · refine jr_ic rfl ?_
      refine jr_goto rfl ?_
      refine jr_zret rfl rfl rfl (Nat.zero_le _) (Nat.zero_le _) ?_
      refine jr_if_eq rfl (fun z => absurd z (by decide)) (fun _ => ?_)
      refine jr_aload rfl rfl ?_
      refine jr_getR rfl rfl rfl rfl (Or.inl rfl) ?_
      refine jr_ic rfl ?_
      refine jr_iald (len := 337) rfl rfl (show _ = nI 0 from rfl) (by decide) ?_
      refine jr_aload rfl rfl ?_
      refine jr_getR rfl rfl rfl rfl (Or.inl rfl) ?_
      refine jr_aload rfl rfl ?_
      refine jr_getI rfl rfl ?_
      refine jr_iald (len := 2) rfl rfl hw.1 (by omega) ?_
      refine jr_idiv rfl (fun z => m5MDhasMonths (by rw [z]; decide)) ?_
      refine jr_goto rfl ?_
      refine jr_iret rfl rfl (Nat.zero_le _) (Nat.zero_le _) ?_
      first
        | exact ⟨rfl, hRel0⟩
        | (refine ⟨congrArg (fun z => some (jv_i z)) ?_, hRel0⟩; rw [e3, e0]; done)
        | (exfalso; simp (disch := omega) only [Int32.lt_iff_toInt_lt, Int32.le_iff_toInt_le, ← Int32.toInt_inj, Int32.reduceToInt, nI_toInt] at c3CalnextYear m5MDhasMonths; omega)

set_option maxHeartbeats 800000 in
set_option maxRecDepth 100000 in
theorem pd_about_6 {d : Nat} {hc hm : jx_H} (hRel : jz_Rel hc hm) : jx_Ev jm_JV_about (d + 40) 0 0 false 0 [jv_r 10 0, jv_i 6] hc (fun r hc' => jx_Ev jm_MD_about (d + 40) 0 0 false 1 [jv_r 11 0, jv_i 6] hm (fun r' hm' => r = r' ∧ jz_Rel hc' hm')) := by
  have hRel0 := hRel
  obtain ⟨b, r, ⟨hw, hG, hr2, hto, hsp, hR, hA, hL⟩, hTa, hFa, hLy, hTi, hLe, hBo, hAc, hWo⟩ := hRel
  have hb2 := hw.2.1
  have hnm := hw.2.2.1.1
  have hnm5 := hnm.2
  have km1 : (jh_I hc 7 r 0).toInt = (jz_nm hm b : Int) := by rw [hR.1]; exact (congrArg Int32.toInt hnm.1).trans (nI_toInt (by omega))
  have km2 : (jh_I hm 66 0 b).toInt = (jz_nm hm b : Int) := (congrArg Int32.toInt hnm.1).trans (nI_toInt (by omega))
  have km3 : (jh_I hm 66 0 b - 1).toInt = (jz_nm hm b : Int) - 1 := by rw [Int32.toInt_sub, km2, show (1 : Int32).toInt = 1 from rfl]; exact jn_sm (by omega) (by omega)
  have e0 : jh_I hc 7 r 0 = jh_I hm 66 0 b := hR.1
  have e1 : jh_I hc 7 r 3 = jh_I hm 67 0 b := hR.2.1
  have e2 : jh_I hc 7 r 5 = jh_I hm 68 0 b := hR.2.2.1
  have e3 : jh_I hc 1 0 2 = jh_I hm 98 0 0 := hA.2.1
  have e4 : jh_I hc 1 0 3 = jh_I hm 98 0 1 := hA.2.2.1
  have e12 : jh_I hc 7 r 12 = jh_I hm 69 0 b := hR.2.2.2.2.2.2.2.2.2.2.2.1
  have z0 : (0 : Int32).toInt = 0 := rfl
  skip
  show jx_W (jm_JV_about, d + 40, 0, 0, false, 0, _) _ 0 0 0 [some (jv_r 10 0), some (jv_i 6)] [] _
  refine jr_iload rfl rfl ?_
  refine jr_tsw rfl ?_
  refine ⟨fun z => absurd z (by decide), fun _ => ?_⟩
  refine ⟨fun z => absurd z (by decide), fun _ => ?_⟩
  refine ⟨fun z => absurd z (by decide), fun _ => ?_⟩
  refine ⟨fun z => absurd z (by decide), fun _ => ?_⟩
  refine ⟨fun z => absurd z (by decide), fun _ => ?_⟩
  refine ⟨fun z => absurd z (by decide), fun _ => ?_⟩
  refine ⟨fun _ => ?_, fun z => absurd (by decide) z⟩
  refine jr_aload rfl rfl ?_
  refine jr_getR rfl rfl rfl rfl (Or.inl rfl) ?_
  refine jr_cv0 (mc' := 0) (ms' := 0) rfl jm_Cal_nextMonth_n jm_Cal_nextMonth_f rfl rfl rfl rfl rfl rfl rfl (Nat.zero_le _) (Nat.zero_le _) ?_
  show jx_W (jm_Cal_nextMonth, _, _, _, _, _, _) _ 0 0 0 [some _] [] _
  refine jr_aload rfl rfl ?_
  refine jr_getM rfl rfl rfl rfl hA.1 ?_
  refine jr_getI rfl rfl ?_
  refine jr_if_le rfl (fun c3CalnextMonth => ?_) (fun c3CalnextMonth => ?_)
  · refine jr_ic rfl ?_
    refine jr_iret rfl rfl (Nat.zero_le _) (Nat.zero_le _) ?_
    refine jr_iret rfl rfl (Nat.zero_le _) (Nat.zero_le _) ?_
    show jx_W (jm_MD_about, d + 40, 0, 0, false, 1, _) _ 0 0 0 [some _, some _] [] _
    refine jr_iload rfl rfl ?_
    refine jr_tsw rfl ?_
    refine ⟨fun z => absurd z (by decide), fun _ => ?_⟩
    refine ⟨fun z => absurd z (by decide), fun _ => ?_⟩
    refine ⟨fun z => absurd z (by decide), fun _ => ?_⟩
    refine ⟨fun z => absurd z (by decide), fun _ => ?_⟩
    refine ⟨fun z => absurd z (by decide), fun _ => ?_⟩
    refine ⟨fun z => absurd z (by decide), fun _ => ?_⟩
    refine ⟨fun _ => ?_, fun z => absurd (by decide) z⟩
    refine jr_aload rfl rfl ?_
    refine jr_cv0 (mc' := 0) (ms' := 0) rfl jm_MD_hasMonths_n jm_MD_hasMonths_f rfl rfl rfl rfl rfl rfl rfl (Nat.zero_le _) (Nat.zero_le _) ?_
    show jx_W (jm_MD_hasMonths, _, _, _, _, _, _) _ 0 0 0 [some _] [] _
    refine jr_aload rfl rfl ?_
    refine jr_getR rfl rfl rfl rfl (Or.inl rfl) ?_
    refine jr_aload rfl rfl ?_
    refine jr_getI rfl rfl ?_
    refine jr_iald (len := 2) rfl rfl hw.1 (by omega) ?_
    refine jr_if_le rfl (fun m5MDhasMonths => ?_) (fun m5MDhasMonths => ?_)
    · refine jr_ic rfl ?_
      refine jr_zret rfl rfl rfl (Nat.zero_le _) (Nat.zero_le _) ?_
      refine jr_if_eq rfl (fun _ => ?_) (fun z => absurd (by decide) z)
      refine jr_ic rfl ?_
      refine jr_iret rfl rfl (Nat.zero_le _) (Nat.zero_le _) ?_
      first
        | exact ⟨rfl, hRel0⟩
        | (refine ⟨congrArg (fun z => some (jv_i z)) ?_, hRel0⟩; rw [e3, e0]; done)
        | (exfalso; simp (disch := omega) only [Int32.lt_iff_toInt_lt, Int32.le_iff_toInt_le, ← Int32.toInt_inj, Int32.reduceToInt, nI_toInt] at c3CalnextMonth m5MDhasMonths; omega)
    · refine jr_ic rfl ?_
      refine jr_goto rfl ?_
      refine jr_zret rfl rfl rfl (Nat.zero_le _) (Nat.zero_le _) ?_
      refine jr_if_eq rfl (fun z => absurd z (by decide)) (fun _ => ?_)
      refine jr_aload rfl rfl ?_
      refine jr_cv0 (mc' := 0) (ms' := 0) rfl jm_MD_month_n jm_MD_month_f rfl rfl rfl rfl rfl rfl rfl (Nat.zero_le _) (Nat.zero_le _) ?_
      show jx_W (jm_MD_month, _, _, _, _, _, _) _ 0 0 0 [some _] [] _
      refine jr_aload rfl rfl ?_
      refine jr_getR rfl rfl rfl rfl (Or.inl rfl) ?_
      refine jr_ic rfl ?_
      refine jr_iald (len := 337) rfl rfl (show _ = nI 0 from rfl) (by decide) ?_
      refine jr_aload rfl rfl ?_
      refine jr_getR rfl rfl rfl rfl (Or.inl rfl) ?_
      refine jr_aload rfl rfl ?_
      refine jr_getI rfl rfl ?_
      refine jr_iald (len := 2) rfl rfl hw.1 (by omega) ?_
      refine jr_irem rfl (fun z => m5MDhasMonths (by rw [z]; decide)) ?_
      refine jr_iret rfl rfl (Nat.zero_le _) (Nat.zero_le _) ?_
      refine jr_goto rfl ?_
      refine jr_iret rfl rfl (Nat.zero_le _) (Nat.zero_le _) ?_
      first
        | exact ⟨rfl, hRel0⟩
        | (refine ⟨congrArg (fun z => some (jv_i z)) ?_, hRel0⟩; rw [e3, e0]; done)
        | (exfalso; simp (disch := omega) only [Int32.lt_iff_toInt_lt, Int32.le_iff_toInt_le, ← Int32.toInt_inj, Int32.reduceToInt, nI_toInt] at c3CalnextMonth m5MDhasMonths; omega)
  · refine jr_aload rfl rfl ?_
    refine jr_getI rfl rfl ?_
    refine jr_aload rfl rfl ?_
    refine jr_getM rfl rfl rfl rfl hA.1 ?_
    refine jr_getI rfl rfl ?_
    refine jr_irem rfl (fun z => c3CalnextMonth (by rw [z]; decide)) ?_
    refine jr_goto rfl ?_
    refine jr_iret rfl rfl (Nat.zero_le _) (Nat.zero_le _) ?_
    refine jr_iret rfl rfl (Nat.zero_le _) (Nat.zero_le _) ?_
    show jx_W (jm_MD_about, d + 40, 0, 0, false, 1, _) _ 0 0 0 [some _, some _] [] _
    refine jr_iload rfl rfl ?_
    refine jr_tsw rfl ?_
    refine ⟨fun z => absurd z (by decide), fun _ => ?_⟩
    refine ⟨fun z => absurd z (by decide), fun _ => ?_⟩
    refine ⟨fun z => absurd z (by decide), fun _ => ?_⟩
    refine ⟨fun z => absurd z (by decide), fun _ => ?_⟩
    refine ⟨fun z => absurd z (by decide), fun _ => ?_⟩
    refine ⟨fun z => absurd z (by decide), fun _ => ?_⟩
    refine ⟨fun _ => ?_, fun z => absurd (by decide) z⟩
    refine jr_aload rfl rfl ?_
    refine jr_cv0 (mc' := 0) (ms' := 0) rfl jm_MD_hasMonths_n jm_MD_hasMonths_f rfl rfl rfl rfl rfl rfl rfl (Nat.zero_le _) (Nat.zero_le _) ?_
    show jx_W (jm_MD_hasMonths, _, _, _, _, _, _) _ 0 0 0 [some _] [] _
    refine jr_aload rfl rfl ?_
    refine jr_getR rfl rfl rfl rfl (Or.inl rfl) ?_
    refine jr_aload rfl rfl ?_
    refine jr_getI rfl rfl ?_
    refine jr_iald (len := 2) rfl rfl hw.1 (by omega) ?_
    refine jr_if_le rfl (fun m5MDhasMonths => ?_) (fun m5MDhasMonths => ?_)
    · refine jr_ic rfl ?_
      refine jr_zret rfl rfl rfl (Nat.zero_le _) (Nat.zero_le _) ?_
      refine jr_if_eq rfl (fun _ => ?_) (fun z => absurd (by decide) z)
      refine jr_ic rfl ?_
      refine jr_iret rfl rfl (Nat.zero_le _) (Nat.zero_le _) ?_
      first
        | exact ⟨rfl, hRel0⟩
        | (refine ⟨congrArg (fun z => some (jv_i z)) ?_, hRel0⟩; rw [e3, e0]; done)
        | (exfalso; simp (disch := omega) only [Int32.lt_iff_toInt_lt, Int32.le_iff_toInt_le, ← Int32.toInt_inj, Int32.reduceToInt, nI_toInt] at c3CalnextMonth m5MDhasMonths; omega)
    · refine jr_ic rfl ?_
      refine jr_goto rfl ?_
      refine jr_zret rfl rfl rfl (Nat.zero_le _) (Nat.zero_le _) ?_
      refine jr_if_eq rfl (fun z => absurd z (by decide)) (fun _ => ?_)
      refine jr_aload rfl rfl ?_
      refine jr_cv0 (mc' := 0) (ms' := 0) rfl jm_MD_month_n jm_MD_month_f rfl rfl rfl rfl rfl rfl rfl (Nat.zero_le _) (Nat.zero_le _) ?_
      show jx_W (jm_MD_month, _, _, _, _, _, _) _ 0 0 0 [some _] [] _
      refine jr_aload rfl rfl ?_
      refine jr_getR rfl rfl rfl rfl (Or.inl rfl) ?_
      refine jr_ic rfl ?_
      refine jr_iald (len := 337) rfl rfl (show _ = nI 0 from rfl) (by decide) ?_
      refine jr_aload rfl rfl ?_
      refine jr_getR rfl rfl rfl rfl (Or.inl rfl) ?_
      refine jr_aload rfl rfl ?_
      refine jr_getI rfl rfl ?_
      refine jr_iald (len := 2) rfl rfl hw.1 (by omega) ?_
      refine jr_irem rfl (fun z => m5MDhasMonths (by rw [z]; decide)) ?_
      refine jr_iret rfl rfl (Nat.zero_le _) (Nat.zero_le _) ?_
      refine jr_goto rfl ?_
      refine jr_iret rfl rfl (Nat.zero_le _) (Nat.zero_le _) ?_
      first
        | exact ⟨rfl, hRel0⟩
        | (refine ⟨congrArg (fun z => some (jv_i z)) ?_, hRel0⟩; rw [e3, e0]; done)
        | (exfalso; simp (disch := omega) only [Int32.lt_iff_toInt_lt, Int32.le_iff_toInt_le, ← Int32.toInt_inj, Int32.reduceToInt, nI_toInt] at c3CalnextMonth m5MDhasMonths; omega)

set_option maxHeartbeats 800000 in
set_option maxRecDepth 100000 in
theorem pd_about_7 {d : Nat} {hc hm : jx_H} (hRel : jz_Rel hc hm) : jx_Ev jm_JV_about (d + 40) 0 0 false 0 [jv_r 10 0, jv_i 7] hc (fun r hc' => jx_Ev jm_MD_about (d + 40) 0 0 false 1 [jv_r 11 0, jv_i 7] hm (fun r' hm' => r = r' ∧ jz_Rel hc' hm')) := by
  have hRel0 := hRel
  obtain ⟨b, r, ⟨hw, hG, hr2, hto, hsp, hR, hA, hL⟩, hTa, hFa, hLy, hTi, hLe, hBo, hAc, hWo⟩ := hRel
  have hb2 := hw.2.1
  have e0 : jh_I hc 7 r 0 = jh_I hm 66 0 b := hR.1
  have e1 : jh_I hc 7 r 3 = jh_I hm 67 0 b := hR.2.1
  have e2 : jh_I hc 7 r 5 = jh_I hm 68 0 b := hR.2.2.1
  have e3 : jh_I hc 1 0 2 = jh_I hm 98 0 0 := hA.2.1
  have e4 : jh_I hc 1 0 3 = jh_I hm 98 0 1 := hA.2.2.1
  have e12 : jh_I hc 7 r 12 = jh_I hm 69 0 b := hR.2.2.2.2.2.2.2.2.2.2.2.1
  obtain ⟨n, u, a1, a2, a3, a4, a5, -⟩ := hAc
  have e : jh_I hc 0 0 4 = jh_I hm 11 0 60 := a2.trans a4.symm
  skip
  show jx_W (jm_JV_about, d + 40, 0, 0, false, 0, _) _ 0 0 0 [some (jv_r 10 0), some (jv_i 7)] [] _
  refine jr_iload rfl rfl ?_
  refine jr_tsw rfl ?_
  refine ⟨fun z => absurd z (by decide), fun _ => ?_⟩
  refine ⟨fun z => absurd z (by decide), fun _ => ?_⟩
  refine ⟨fun z => absurd z (by decide), fun _ => ?_⟩
  refine ⟨fun z => absurd z (by decide), fun _ => ?_⟩
  refine ⟨fun z => absurd z (by decide), fun _ => ?_⟩
  refine ⟨fun z => absurd z (by decide), fun _ => ?_⟩
  refine ⟨fun z => absurd z (by decide), fun _ => ?_⟩
  refine ⟨fun _ => ?_, fun z => absurd (by decide) z⟩
  refine jr_aload rfl rfl ?_
  refine jr_getR rfl rfl rfl rfl (Or.inl rfl) ?_
  refine jr_getI rfl rfl ?_
  refine jr_iret rfl rfl (Nat.zero_le _) (Nat.zero_le _) ?_
  show jx_W (jm_MD_about, d + 40, 0, 0, false, 1, _) _ 0 0 0 [some _, some _] [] _
  refine jr_iload rfl rfl ?_
  refine jr_tsw rfl ?_
  refine ⟨fun z => absurd z (by decide), fun _ => ?_⟩
  refine ⟨fun z => absurd z (by decide), fun _ => ?_⟩
  refine ⟨fun z => absurd z (by decide), fun _ => ?_⟩
  refine ⟨fun z => absurd z (by decide), fun _ => ?_⟩
  refine ⟨fun z => absurd z (by decide), fun _ => ?_⟩
  refine ⟨fun z => absurd z (by decide), fun _ => ?_⟩
  refine ⟨fun z => absurd z (by decide), fun _ => ?_⟩
  refine ⟨fun _ => ?_, fun z => absurd (by decide) z⟩
  refine jr_aload rfl rfl ?_
  refine jr_getI rfl rfl ?_
  refine jr_iret rfl rfl (Nat.zero_le _) (Nat.zero_le _) ?_
  exact ⟨congrArg (fun z => some (jv_i z)) e, hRel0⟩

set_option maxHeartbeats 800000 in
set_option maxRecDepth 100000 in
theorem pd_about_8 {d : Nat} {hc hm : jx_H} (hRel : jz_Rel hc hm) : jx_Ev jm_JV_about (d + 40) 0 0 false 0 [jv_r 10 0, jv_i 8] hc (fun r hc' => jx_Ev jm_MD_about (d + 40) 0 0 false 1 [jv_r 11 0, jv_i 8] hm (fun r' hm' => r = r' ∧ jz_Rel hc' hm')) := by
  have hRel0 := hRel
  obtain ⟨b, r, ⟨hw, hG, hr2, hto, hsp, hR, hA, hL⟩, hTa, hFa, hLy, hTi, hLe, hBo, hAc, hWo⟩ := hRel
  have hb2 := hw.2.1
  have e0 : jh_I hc 7 r 0 = jh_I hm 66 0 b := hR.1
  have e1 : jh_I hc 7 r 3 = jh_I hm 67 0 b := hR.2.1
  have e2 : jh_I hc 7 r 5 = jh_I hm 68 0 b := hR.2.2.1
  have e3 : jh_I hc 1 0 2 = jh_I hm 98 0 0 := hA.2.1
  have e4 : jh_I hc 1 0 3 = jh_I hm 98 0 1 := hA.2.2.1
  have e12 : jh_I hc 7 r 12 = jh_I hm 69 0 b := hR.2.2.2.2.2.2.2.2.2.2.2.1
  obtain ⟨n, u, a1, a2, a3, a4, a5, -⟩ := hAc
  have e : jh_I hc 0 0 5 - jh_I hc 0 0 4 = jh_I hm 11 0 61 := by rw [a2, a3, a5, pk_sub (by omega), Nat.add_sub_cancel_left]
  skip
  show jx_W (jm_JV_about, d + 40, 0, 0, false, 0, _) _ 0 0 0 [some (jv_r 10 0), some (jv_i 8)] [] _
  refine jr_iload rfl rfl ?_
  refine jr_tsw rfl ?_
  refine ⟨fun z => absurd z (by decide), fun _ => ?_⟩
  refine ⟨fun z => absurd z (by decide), fun _ => ?_⟩
  refine ⟨fun z => absurd z (by decide), fun _ => ?_⟩
  refine ⟨fun z => absurd z (by decide), fun _ => ?_⟩
  refine ⟨fun z => absurd z (by decide), fun _ => ?_⟩
  refine ⟨fun z => absurd z (by decide), fun _ => ?_⟩
  refine ⟨fun z => absurd z (by decide), fun _ => ?_⟩
  refine ⟨fun z => absurd z (by decide), fun _ => ?_⟩
  refine ⟨fun _ => ?_, fun z => absurd (by decide) z⟩
  refine jr_aload rfl rfl ?_
  refine jr_getR rfl rfl rfl rfl (Or.inl rfl) ?_
  refine jr_getI rfl rfl ?_
  refine jr_aload rfl rfl ?_
  refine jr_getR rfl rfl rfl rfl (Or.inl rfl) ?_
  refine jr_getI rfl rfl ?_
  refine jr_isub rfl ?_
  refine jr_iret rfl rfl (Nat.zero_le _) (Nat.zero_le _) ?_
  show jx_W (jm_MD_about, d + 40, 0, 0, false, 1, _) _ 0 0 0 [some _, some _] [] _
  refine jr_iload rfl rfl ?_
  refine jr_tsw rfl ?_
  refine ⟨fun z => absurd z (by decide), fun _ => ?_⟩
  refine ⟨fun z => absurd z (by decide), fun _ => ?_⟩
  refine ⟨fun z => absurd z (by decide), fun _ => ?_⟩
  refine ⟨fun z => absurd z (by decide), fun _ => ?_⟩
  refine ⟨fun z => absurd z (by decide), fun _ => ?_⟩
  refine ⟨fun z => absurd z (by decide), fun _ => ?_⟩
  refine ⟨fun z => absurd z (by decide), fun _ => ?_⟩
  refine ⟨fun z => absurd z (by decide), fun _ => ?_⟩
  refine ⟨fun _ => ?_, fun z => absurd (by decide) z⟩
  refine jr_aload rfl rfl ?_
  refine jr_getI rfl rfl ?_
  refine jr_iret rfl rfl (Nat.zero_le _) (Nat.zero_le _) ?_
  exact ⟨congrArg (fun z => some (jv_i z)) e, hRel0⟩

set_option maxHeartbeats 800000 in
set_option maxRecDepth 100000 in
theorem pd_about_9 {d : Nat} {hc hm : jx_H} (hRel : jz_Rel hc hm) : jx_Ev jm_JV_about (d + 40) 0 0 false 0 [jv_r 10 0, jv_i 9] hc (fun r hc' => jx_Ev jm_MD_about (d + 40) 0 0 false 1 [jv_r 11 0, jv_i 9] hm (fun r' hm' => r = r' ∧ jz_Rel hc' hm')) := by
  have hRel0 := hRel
  obtain ⟨b, r, ⟨hw, hG, hr2, hto, hsp, hR, hA, hL⟩, hTa, hFa, hLy, hTi, hLe, hBo, hAc, hWo⟩ := hRel
  have hb2 := hw.2.1
  have e0 : jh_I hc 7 r 0 = jh_I hm 66 0 b := hR.1
  have e1 : jh_I hc 7 r 3 = jh_I hm 67 0 b := hR.2.1
  have e2 : jh_I hc 7 r 5 = jh_I hm 68 0 b := hR.2.2.1
  have e3 : jh_I hc 1 0 2 = jh_I hm 98 0 0 := hA.2.1
  have e4 : jh_I hc 1 0 3 = jh_I hm 98 0 1 := hA.2.2.1
  have e12 : jh_I hc 7 r 12 = jh_I hm 69 0 b := hR.2.2.2.2.2.2.2.2.2.2.2.1
  obtain ⟨n, a1, a2, a3, -⟩ := hLe
  have e : jh_I hc 4 0 4 = jh_I hm 11 0 80 := a2.trans a3.symm
  skip
  show jx_W (jm_JV_about, d + 40, 0, 0, false, 0, _) _ 0 0 0 [some (jv_r 10 0), some (jv_i 9)] [] _
  refine jr_iload rfl rfl ?_
  refine jr_tsw rfl ?_
  refine ⟨fun z => absurd z (by decide), fun _ => ?_⟩
  refine ⟨fun z => absurd z (by decide), fun _ => ?_⟩
  refine ⟨fun z => absurd z (by decide), fun _ => ?_⟩
  refine ⟨fun z => absurd z (by decide), fun _ => ?_⟩
  refine ⟨fun z => absurd z (by decide), fun _ => ?_⟩
  refine ⟨fun z => absurd z (by decide), fun _ => ?_⟩
  refine ⟨fun z => absurd z (by decide), fun _ => ?_⟩
  refine ⟨fun z => absurd z (by decide), fun _ => ?_⟩
  refine ⟨fun z => absurd z (by decide), fun _ => ?_⟩
  refine ⟨fun _ => ?_, fun z => absurd (by decide) z⟩
  refine jr_aload rfl rfl ?_
  refine jr_getR rfl rfl rfl rfl (Or.inl rfl) ?_
  refine jr_getI rfl rfl ?_
  refine jr_iret rfl rfl (Nat.zero_le _) (Nat.zero_le _) ?_
  show jx_W (jm_MD_about, d + 40, 0, 0, false, 1, _) _ 0 0 0 [some _, some _] [] _
  refine jr_iload rfl rfl ?_
  refine jr_tsw rfl ?_
  refine ⟨fun z => absurd z (by decide), fun _ => ?_⟩
  refine ⟨fun z => absurd z (by decide), fun _ => ?_⟩
  refine ⟨fun z => absurd z (by decide), fun _ => ?_⟩
  refine ⟨fun z => absurd z (by decide), fun _ => ?_⟩
  refine ⟨fun z => absurd z (by decide), fun _ => ?_⟩
  refine ⟨fun z => absurd z (by decide), fun _ => ?_⟩
  refine ⟨fun z => absurd z (by decide), fun _ => ?_⟩
  refine ⟨fun z => absurd z (by decide), fun _ => ?_⟩
  refine ⟨fun z => absurd z (by decide), fun _ => ?_⟩
  refine ⟨fun _ => ?_, fun z => absurd (by decide) z⟩
  refine jr_aload rfl rfl ?_
  refine jr_getI rfl rfl ?_
  refine jr_iret rfl rfl (Nat.zero_le _) (Nat.zero_le _) ?_
  exact ⟨congrArg (fun z => some (jv_i z)) e, hRel0⟩

set_option maxHeartbeats 800000 in
set_option maxRecDepth 100000 in
theorem pd_about_10 {d : Nat} {hc hm : jx_H} (hRel : jz_Rel hc hm) : jx_Ev jm_JV_about (d + 40) 0 0 false 0 [jv_r 10 0, jv_i 10] hc (fun r hc' => jx_Ev jm_MD_about (d + 40) 0 0 false 1 [jv_r 11 0, jv_i 10] hm (fun r' hm' => r = r' ∧ jz_Rel hc' hm')) := by
  have hRel0 := hRel
  obtain ⟨b, r, ⟨hw, hG, hr2, hto, hsp, hR, hA, hL⟩, hTa, hFa, hLy, hTi, hLe, hBo, hAc, hWo⟩ := hRel
  have hb2 := hw.2.1
  have e0 : jh_I hc 7 r 0 = jh_I hm 66 0 b := hR.1
  have e1 : jh_I hc 7 r 3 = jh_I hm 67 0 b := hR.2.1
  have e2 : jh_I hc 7 r 5 = jh_I hm 68 0 b := hR.2.2.1
  have e3 : jh_I hc 1 0 2 = jh_I hm 98 0 0 := hA.2.1
  have e4 : jh_I hc 1 0 3 = jh_I hm 98 0 1 := hA.2.2.1
  have e12 : jh_I hc 7 r 12 = jh_I hm 69 0 b := hR.2.2.2.2.2.2.2.2.2.2.2.1
  obtain ⟨n, a1, a2, a3⟩ := hTi
  have e : jh_I hc 10 0 14 = jh_I hm 11 0 81 := a2.trans a3.symm
  skip
  show jx_W (jm_JV_about, d + 40, 0, 0, false, 0, _) _ 0 0 0 [some (jv_r 10 0), some (jv_i 10)] [] _
  refine jr_iload rfl rfl ?_
  refine jr_tsw rfl ?_
  refine ⟨fun z => absurd z (by decide), fun _ => ?_⟩
  refine ⟨fun z => absurd z (by decide), fun _ => ?_⟩
  refine ⟨fun z => absurd z (by decide), fun _ => ?_⟩
  refine ⟨fun z => absurd z (by decide), fun _ => ?_⟩
  refine ⟨fun z => absurd z (by decide), fun _ => ?_⟩
  refine ⟨fun z => absurd z (by decide), fun _ => ?_⟩
  refine ⟨fun z => absurd z (by decide), fun _ => ?_⟩
  refine ⟨fun z => absurd z (by decide), fun _ => ?_⟩
  refine ⟨fun z => absurd z (by decide), fun _ => ?_⟩
  refine ⟨fun z => absurd z (by decide), fun _ => ?_⟩
  refine ⟨fun _ => ?_, fun z => absurd (by decide) z⟩
  refine jr_aload rfl rfl ?_
  refine jr_getI rfl rfl ?_
  refine jr_iret rfl rfl (Nat.zero_le _) (Nat.zero_le _) ?_
  show jx_W (jm_MD_about, d + 40, 0, 0, false, 1, _) _ 0 0 0 [some _, some _] [] _
  refine jr_iload rfl rfl ?_
  refine jr_tsw rfl ?_
  refine ⟨fun z => absurd z (by decide), fun _ => ?_⟩
  refine ⟨fun z => absurd z (by decide), fun _ => ?_⟩
  refine ⟨fun z => absurd z (by decide), fun _ => ?_⟩
  refine ⟨fun z => absurd z (by decide), fun _ => ?_⟩
  refine ⟨fun z => absurd z (by decide), fun _ => ?_⟩
  refine ⟨fun z => absurd z (by decide), fun _ => ?_⟩
  refine ⟨fun z => absurd z (by decide), fun _ => ?_⟩
  refine ⟨fun z => absurd z (by decide), fun _ => ?_⟩
  refine ⟨fun z => absurd z (by decide), fun _ => ?_⟩
  refine ⟨fun z => absurd z (by decide), fun _ => ?_⟩
  refine ⟨fun _ => ?_, fun z => absurd (by decide) z⟩
  refine jr_aload rfl rfl ?_
  refine jr_getI rfl rfl ?_
  refine jr_iret rfl rfl (Nat.zero_le _) (Nat.zero_le _) ?_
  exact ⟨congrArg (fun z => some (jv_i z)) e, hRel0⟩

set_option maxHeartbeats 800000 in
set_option maxRecDepth 100000 in
theorem pd_about_11 {d : Nat} {hc hm : jx_H} (hRel : jz_Rel hc hm) : jx_Ev jm_JV_about (d + 40) 0 0 false 0 [jv_r 10 0, jv_i 11] hc (fun r hc' => jx_Ev jm_MD_about (d + 40) 0 0 false 1 [jv_r 11 0, jv_i 11] hm (fun r' hm' => r = r' ∧ jz_Rel hc' hm')) := by
  have hRel0 := hRel
  obtain ⟨b, r, ⟨hw, hG, hr2, hto, hsp, hR, hA, hL⟩, hTa, hFa, hLy, hTi, hLe, hBo, hAc, hWo⟩ := hRel
  have hb2 := hw.2.1
  have e0 : jh_I hc 7 r 0 = jh_I hm 66 0 b := hR.1
  have e1 : jh_I hc 7 r 3 = jh_I hm 67 0 b := hR.2.1
  have e2 : jh_I hc 7 r 5 = jh_I hm 68 0 b := hR.2.2.1
  have e3 : jh_I hc 1 0 2 = jh_I hm 98 0 0 := hA.2.1
  have e4 : jh_I hc 1 0 3 = jh_I hm 98 0 1 := hA.2.2.1
  have e12 : jh_I hc 7 r 12 = jh_I hm 69 0 b := hR.2.2.2.2.2.2.2.2.2.2.2.1
  obtain ⟨n, a1, a2, -⟩ := hTa
  have e : jh_I hc 9 0 5 = jh_I hm 11 0 2 := a1.trans a2.symm
  skip
  show jx_W (jm_JV_about, d + 40, 0, 0, false, 0, _) _ 0 0 0 [some (jv_r 10 0), some (jv_i 11)] [] _
  refine jr_iload rfl rfl ?_
  refine jr_tsw rfl ?_
  refine ⟨fun z => absurd z (by decide), fun _ => ?_⟩
  refine ⟨fun z => absurd z (by decide), fun _ => ?_⟩
  refine ⟨fun z => absurd z (by decide), fun _ => ?_⟩
  refine ⟨fun z => absurd z (by decide), fun _ => ?_⟩
  refine ⟨fun z => absurd z (by decide), fun _ => ?_⟩
  refine ⟨fun z => absurd z (by decide), fun _ => ?_⟩
  refine ⟨fun z => absurd z (by decide), fun _ => ?_⟩
  refine ⟨fun z => absurd z (by decide), fun _ => ?_⟩
  refine ⟨fun z => absurd z (by decide), fun _ => ?_⟩
  refine ⟨fun z => absurd z (by decide), fun _ => ?_⟩
  refine ⟨fun z => absurd z (by decide), fun _ => ?_⟩
  refine ⟨fun _ => ?_, fun z => absurd (by decide) z⟩
  refine jr_aload rfl rfl ?_
  refine jr_getR rfl rfl rfl rfl (Or.inl rfl) ?_
  refine jr_getI rfl rfl ?_
  refine jr_iret rfl rfl (Nat.zero_le _) (Nat.zero_le _) ?_
  show jx_W (jm_MD_about, d + 40, 0, 0, false, 1, _) _ 0 0 0 [some _, some _] [] _
  refine jr_iload rfl rfl ?_
  refine jr_tsw rfl ?_
  refine ⟨fun z => absurd z (by decide), fun _ => ?_⟩
  refine ⟨fun z => absurd z (by decide), fun _ => ?_⟩
  refine ⟨fun z => absurd z (by decide), fun _ => ?_⟩
  refine ⟨fun z => absurd z (by decide), fun _ => ?_⟩
  refine ⟨fun z => absurd z (by decide), fun _ => ?_⟩
  refine ⟨fun z => absurd z (by decide), fun _ => ?_⟩
  refine ⟨fun z => absurd z (by decide), fun _ => ?_⟩
  refine ⟨fun z => absurd z (by decide), fun _ => ?_⟩
  refine ⟨fun z => absurd z (by decide), fun _ => ?_⟩
  refine ⟨fun z => absurd z (by decide), fun _ => ?_⟩
  refine ⟨fun z => absurd z (by decide), fun _ => ?_⟩
  refine ⟨fun _ => ?_, fun z => absurd (by decide) z⟩
  refine jr_aload rfl rfl ?_
  refine jr_getI rfl rfl ?_
  refine jr_iret rfl rfl (Nat.zero_le _) (Nat.zero_le _) ?_
  exact ⟨congrArg (fun z => some (jv_i z)) e, hRel0⟩

set_option maxHeartbeats 800000 in
set_option maxRecDepth 100000 in
theorem pd_about_12 {d : Nat} {hc hm : jx_H} (hRel : jz_Rel hc hm) : jx_Ev jm_JV_about (d + 40) 0 0 false 0 [jv_r 10 0, jv_i 12] hc (fun r hc' => jx_Ev jm_MD_about (d + 40) 0 0 false 1 [jv_r 11 0, jv_i 12] hm (fun r' hm' => r = r' ∧ jz_Rel hc' hm')) := by
  have hRel0 := hRel
  obtain ⟨b, r, ⟨hw, hG, hr2, hto, hsp, hR, hA, hL⟩, hTa, hFa, hLy, hTi, hLe, hBo, hAc, hWo⟩ := hRel
  have hb2 := hw.2.1
  have e0 : jh_I hc 7 r 0 = jh_I hm 66 0 b := hR.1
  have e1 : jh_I hc 7 r 3 = jh_I hm 67 0 b := hR.2.1
  have e2 : jh_I hc 7 r 5 = jh_I hm 68 0 b := hR.2.2.1
  have e3 : jh_I hc 1 0 2 = jh_I hm 98 0 0 := hA.2.1
  have e4 : jh_I hc 1 0 3 = jh_I hm 98 0 1 := hA.2.2.1
  have e12 : jh_I hc 7 r 12 = jh_I hm 69 0 b := hR.2.2.2.2.2.2.2.2.2.2.2.1
  
  skip
  show jx_W (jm_JV_about, d + 40, 0, 0, false, 0, _) _ 0 0 0 [some (jv_r 10 0), some (jv_i 12)] [] _
  refine jr_iload rfl rfl ?_
  refine jr_tsw rfl ?_
  refine ⟨fun z => absurd z (by decide), fun _ => ?_⟩
  refine ⟨fun z => absurd z (by decide), fun _ => ?_⟩
  refine ⟨fun z => absurd z (by decide), fun _ => ?_⟩
  refine ⟨fun z => absurd z (by decide), fun _ => ?_⟩
  refine ⟨fun z => absurd z (by decide), fun _ => ?_⟩
  refine ⟨fun z => absurd z (by decide), fun _ => ?_⟩
  refine ⟨fun z => absurd z (by decide), fun _ => ?_⟩
  refine ⟨fun z => absurd z (by decide), fun _ => ?_⟩
  refine ⟨fun z => absurd z (by decide), fun _ => ?_⟩
  refine ⟨fun z => absurd z (by decide), fun _ => ?_⟩
  refine ⟨fun z => absurd z (by decide), fun _ => ?_⟩
  refine ⟨fun z => absurd z (by decide), fun _ => ?_⟩
  refine ⟨fun _ => ?_, fun z => absurd (by decide) z⟩
  refine jr_aload rfl rfl ?_
  refine jr_getM rfl rfl rfl rfl hto ?_
  refine jr_getI rfl rfl ?_
  refine jr_iret rfl rfl (Nat.zero_le _) (Nat.zero_le _) ?_
  show jx_W (jm_MD_about, d + 40, 0, 0, false, 1, _) _ 0 0 0 [some _, some _] [] _
  refine jr_iload rfl rfl ?_
  refine jr_tsw rfl ?_
  refine ⟨fun z => absurd z (by decide), fun _ => ?_⟩
  refine ⟨fun z => absurd z (by decide), fun _ => ?_⟩
  refine ⟨fun z => absurd z (by decide), fun _ => ?_⟩
  refine ⟨fun z => absurd z (by decide), fun _ => ?_⟩
  refine ⟨fun z => absurd z (by decide), fun _ => ?_⟩
  refine ⟨fun z => absurd z (by decide), fun _ => ?_⟩
  refine ⟨fun z => absurd z (by decide), fun _ => ?_⟩
  refine ⟨fun z => absurd z (by decide), fun _ => ?_⟩
  refine ⟨fun z => absurd z (by decide), fun _ => ?_⟩
  refine ⟨fun z => absurd z (by decide), fun _ => ?_⟩
  refine ⟨fun z => absurd z (by decide), fun _ => ?_⟩
  refine ⟨fun z => absurd z (by decide), fun _ => ?_⟩
  refine ⟨fun _ => ?_, fun z => absurd (by decide) z⟩
  refine jr_aload rfl rfl ?_
  refine jr_getR rfl rfl rfl rfl (Or.inl rfl) ?_
  refine jr_aload rfl rfl ?_
  refine jr_getI rfl rfl ?_
  refine jr_iald (len := 2) rfl rfl hw.1 (by omega) ?_
  refine jr_iret rfl rfl (Nat.zero_le _) (Nat.zero_le _) ?_
  exact ⟨congrArg (fun z => some (jv_i z)) e12, hRel0⟩

set_option maxHeartbeats 800000 in
set_option maxRecDepth 100000 in
theorem pd_about_13 {d : Nat} {hc hm : jx_H} (hRel : jz_Rel hc hm) : jx_Ev jm_JV_about (d + 40) 0 0 false 0 [jv_r 10 0, jv_i 13] hc (fun r hc' => jx_Ev jm_MD_about (d + 40) 0 0 false 1 [jv_r 11 0, jv_i 13] hm (fun r' hm' => r = r' ∧ jz_Rel hc' hm')) := by
  have hRel0 := hRel
  obtain ⟨b, r, ⟨hw, hG, hr2, hto, hsp, hR, hA, hL⟩, hTa, hFa, hLy, hTi, hLe, hBo, hAc, hWo⟩ := hRel
  have hb2 := hw.2.1
  have e0 : jh_I hc 7 r 0 = jh_I hm 66 0 b := hR.1
  have e1 : jh_I hc 7 r 3 = jh_I hm 67 0 b := hR.2.1
  have e2 : jh_I hc 7 r 5 = jh_I hm 68 0 b := hR.2.2.1
  have e3 : jh_I hc 1 0 2 = jh_I hm 98 0 0 := hA.2.1
  have e4 : jh_I hc 1 0 3 = jh_I hm 98 0 1 := hA.2.2.1
  have e12 : jh_I hc 7 r 12 = jh_I hm 69 0 b := hR.2.2.2.2.2.2.2.2.2.2.2.1
  obtain ⟨n, -, a1, a2, -⟩ := hLy
  have e : jh_I hc 10 0 13 = jh_I hm 11 0 65 := a1.trans a2.symm
  skip
  show jx_W (jm_JV_about, d + 40, 0, 0, false, 0, _) _ 0 0 0 [some (jv_r 10 0), some (jv_i 13)] [] _
  refine jr_iload rfl rfl ?_
  refine jr_tsw rfl ?_
  refine ⟨fun z => absurd z (by decide), fun _ => ?_⟩
  refine ⟨fun z => absurd z (by decide), fun _ => ?_⟩
  refine ⟨fun z => absurd z (by decide), fun _ => ?_⟩
  refine ⟨fun z => absurd z (by decide), fun _ => ?_⟩
  refine ⟨fun z => absurd z (by decide), fun _ => ?_⟩
  refine ⟨fun z => absurd z (by decide), fun _ => ?_⟩
  refine ⟨fun z => absurd z (by decide), fun _ => ?_⟩
  refine ⟨fun z => absurd z (by decide), fun _ => ?_⟩
  refine ⟨fun z => absurd z (by decide), fun _ => ?_⟩
  refine ⟨fun z => absurd z (by decide), fun _ => ?_⟩
  refine ⟨fun z => absurd z (by decide), fun _ => ?_⟩
  refine ⟨fun z => absurd z (by decide), fun _ => ?_⟩
  refine ⟨fun z => absurd z (by decide), fun _ => ?_⟩
  refine ⟨fun _ => ?_, fun z => absurd (by decide) z⟩
  refine jr_aload rfl rfl ?_
  refine jr_getI rfl rfl ?_
  refine jr_iret rfl rfl (Nat.zero_le _) (Nat.zero_le _) ?_
  show jx_W (jm_MD_about, d + 40, 0, 0, false, 1, _) _ 0 0 0 [some _, some _] [] _
  refine jr_iload rfl rfl ?_
  refine jr_tsw rfl ?_
  refine ⟨fun z => absurd z (by decide), fun _ => ?_⟩
  refine ⟨fun z => absurd z (by decide), fun _ => ?_⟩
  refine ⟨fun z => absurd z (by decide), fun _ => ?_⟩
  refine ⟨fun z => absurd z (by decide), fun _ => ?_⟩
  refine ⟨fun z => absurd z (by decide), fun _ => ?_⟩
  refine ⟨fun z => absurd z (by decide), fun _ => ?_⟩
  refine ⟨fun z => absurd z (by decide), fun _ => ?_⟩
  refine ⟨fun z => absurd z (by decide), fun _ => ?_⟩
  refine ⟨fun z => absurd z (by decide), fun _ => ?_⟩
  refine ⟨fun z => absurd z (by decide), fun _ => ?_⟩
  refine ⟨fun z => absurd z (by decide), fun _ => ?_⟩
  refine ⟨fun z => absurd z (by decide), fun _ => ?_⟩
  refine ⟨fun z => absurd z (by decide), fun _ => ?_⟩
  refine ⟨fun _ => ?_, fun z => absurd (by decide) z⟩
  refine jr_aload rfl rfl ?_
  refine jr_getI rfl rfl ?_
  refine jr_iret rfl rfl (Nat.zero_le _) (Nat.zero_le _) ?_
  exact ⟨congrArg (fun z => some (jv_i z)) e, hRel0⟩


theorem pd_about {d : Nat} {hc hm : jx_H} {x : Int32} (hRel : jz_Rel hc hm) : jx_Ev jm_JV_about (d + 40) 0 0 false 0 [jv_r 10 0, jv_i x] hc (fun r hc' => jx_Ev jm_MD_about (d + 40) 0 0 false 1 [jv_r 11 0, jv_i x] hm (fun r' hm' => r = r' ∧ jz_Rel hc' hm')) := by
  by_cases h0 : x = 0
  · subst h0; exact pd_about_0 hRel
  by_cases h1 : x = 1
  · subst h1; exact pd_about_1 hRel
  by_cases h2 : x = 2
  · subst h2; exact pd_about_2 hRel
  by_cases h3 : x = 3
  · subst h3; exact pd_about_3 hRel
  by_cases h4 : x = 4
  · subst h4; exact pd_about_4 hRel
  by_cases h5 : x = 5
  · subst h5; exact pd_about_5 hRel
  by_cases h6 : x = 6
  · subst h6; exact pd_about_6 hRel
  by_cases h7 : x = 7
  · subst h7; exact pd_about_7 hRel
  by_cases h8 : x = 8
  · subst h8; exact pd_about_8 hRel
  by_cases h9 : x = 9
  · subst h9; exact pd_about_9 hRel
  by_cases h10 : x = 10
  · subst h10; exact pd_about_10 hRel
  by_cases h11 : x = 11
  · subst h11; exact pd_about_11 hRel
  by_cases h12 : x = 12
  · subst h12; exact pd_about_12 hRel
  by_cases h13 : x = 13
  · subst h13; exact pd_about_13 hRel
  have hx : ∀ k : Int, 0 ≤ k → k < 14 → ¬ x.toInt = k := by
    intro k k0 k1 z
    simp only [← Int32.toInt_inj, Int32.reduceToInt] at h0 h1 h2 h3 h4 h5 h6 h7 h8 h9 h10 h11 h12 h13
    omega
  show jx_W (jm_JV_about, d + 40, 0, 0, false, 0, _) _ 0 0 0 [some (jv_r 10 0), some (jv_i x)] [] _
  refine jr_iload rfl rfl ?_
  refine jr_tsw rfl ?_
  refine ⟨fun z => absurd z (hx 0 (by decide) (by decide)), fun _ => ?_⟩
  refine ⟨fun z => absurd z (hx 1 (by decide) (by decide)), fun _ => ?_⟩
  refine ⟨fun z => absurd z (hx 2 (by decide) (by decide)), fun _ => ?_⟩
  refine ⟨fun z => absurd z (hx 3 (by decide) (by decide)), fun _ => ?_⟩
  refine ⟨fun z => absurd z (hx 4 (by decide) (by decide)), fun _ => ?_⟩
  refine ⟨fun z => absurd z (hx 5 (by decide) (by decide)), fun _ => ?_⟩
  refine ⟨fun z => absurd z (hx 6 (by decide) (by decide)), fun _ => ?_⟩
  refine ⟨fun z => absurd z (hx 7 (by decide) (by decide)), fun _ => ?_⟩
  refine ⟨fun z => absurd z (hx 8 (by decide) (by decide)), fun _ => ?_⟩
  refine ⟨fun z => absurd z (hx 9 (by decide) (by decide)), fun _ => ?_⟩
  refine ⟨fun z => absurd z (hx 10 (by decide) (by decide)), fun _ => ?_⟩
  refine ⟨fun z => absurd z (hx 11 (by decide) (by decide)), fun _ => ?_⟩
  refine ⟨fun z => absurd z (hx 12 (by decide) (by decide)), fun _ => ?_⟩
  refine ⟨fun z => absurd z (hx 13 (by decide) (by decide)), fun _ => ?_⟩
  refine jr_ic rfl ?_
  refine jr_iret rfl rfl (Nat.zero_le _) (Nat.zero_le _) ?_
  show jx_W (jm_MD_about, d + 40, 0, 0, false, 1, _) _ 0 0 0 [some _, some _] [] _
  refine jr_iload rfl rfl ?_
  refine jr_tsw rfl ?_
  refine ⟨fun z => absurd z (hx 0 (by decide) (by decide)), fun _ => ?_⟩
  refine ⟨fun z => absurd z (hx 1 (by decide) (by decide)), fun _ => ?_⟩
  refine ⟨fun z => absurd z (hx 2 (by decide) (by decide)), fun _ => ?_⟩
  refine ⟨fun z => absurd z (hx 3 (by decide) (by decide)), fun _ => ?_⟩
  refine ⟨fun z => absurd z (hx 4 (by decide) (by decide)), fun _ => ?_⟩
  refine ⟨fun z => absurd z (hx 5 (by decide) (by decide)), fun _ => ?_⟩
  refine ⟨fun z => absurd z (hx 6 (by decide) (by decide)), fun _ => ?_⟩
  refine ⟨fun z => absurd z (hx 7 (by decide) (by decide)), fun _ => ?_⟩
  refine ⟨fun z => absurd z (hx 8 (by decide) (by decide)), fun _ => ?_⟩
  refine ⟨fun z => absurd z (hx 9 (by decide) (by decide)), fun _ => ?_⟩
  refine ⟨fun z => absurd z (hx 10 (by decide) (by decide)), fun _ => ?_⟩
  refine ⟨fun z => absurd z (hx 11 (by decide) (by decide)), fun _ => ?_⟩
  refine ⟨fun z => absurd z (hx 12 (by decide) (by decide)), fun _ => ?_⟩
  refine ⟨fun z => absurd z (hx 13 (by decide) (by decide)), fun _ => ?_⟩
  refine jr_ic rfl ?_
  refine jr_iret rfl rfl (Nat.zero_le _) (Nat.zero_le _) ?_
  exact ⟨rfl, hRel⟩
