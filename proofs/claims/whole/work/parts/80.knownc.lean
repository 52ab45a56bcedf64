theorem jz_Rel_m {hc hm : jx_H} {S' : Nat → Nat → Int32} (h : jz_Rel hc hm) (hS : jz_S hm S') : jz_Rel hc (jS hm S') := by
  have := jz_Rel_p (S := fun a => jh_I hc a 0) (k := jh_M hc 5 0 5) h hS
  rw [jP_self] at this
  exact this
theorem jl_bm_m {x y best : Int32} {R : Nat → Prop} (h : jl_bm x best R) (e : x = 0 ↔ y = 0) : jl_bm y best R := by
  rcases h with h | ⟨w, h1, h2, h3, h4⟩
  · exact Or.inl h
  · refine Or.inr ⟨w, h1, h2, h3, fun l hl => ?_⟩
    have := h4 l hl
    by_cases z : x = 0
    · rw [if_pos z] at this; rw [if_pos (e.mp z)]; exact this
    · rw [if_neg z] at this; rw [if_neg (fun q => z (e.mpr q))]; exact this
/-- what the class's tables hold after rows were counted -/
def jl_fc (hm : jx_H) (b m n : Nat) (kk : Int32) (S : Nat → Nat → Nat → Int32) : Prop := S 4 0 7 = nI m ∧ (∀ e, e ≤ 400 → S 56 0 e = jl_X hm kk n e) ∧ ∀ j, j ≤ m → ∀ x, x ≤ j * 31 → S 58 j x = nI (jl_T hm b (jl_X hm kk n) (jl_Y hm kk n) (m - j) j x)
theorem ev_rowsV {d : Nat} {h : jx_H} {Q : Option jx_V → jx_H → Prop} {hm : jx_H} {r b m n : Nat} {kk : Int32} (hw : jz_W hm b) (hR : jy_R h r hm b) (h0 : 0 < jz_nm hm b) (hm1 : 1 ≤ m) (hm5 : m ≤ 5) (hn : n ≤ 30) (e2 : jh_I h 4 0 4 = nI n) (e4 : ∀ j, j < n → jz_Le1 h hm b j)
  (k : ∀ (S' : Nat → Nat → Nat → Int32) (v : Int32), (∀ f, f ≠ 6 → f ≠ 7 → S' 4 0 f = jh_I h 4 0 f) → (50000 < jl_P (jl_w hm b) m ∧ v = -2 ∨ ¬ 50000 < jl_P (jl_w hm b) m ∧ v = nI (jl_cnt (jl_gm hm b kk n m (jl_q hm) (jl_mo hm) (jl_e hm)) (jl_P (jl_w hm b) m)) ∧ jl_fc hm b m n kk S') → Q (some (jv_i v)) (jL h S')) :
  jx_Ev jm_Led_rows (d + 4) 0 0 false 0 [jv_r 4 0, jv_r 7 r, jv_i (nI m), jv_i kk] h Q := by
  have hM := jl_factsM e4 hw.2.2.1.1.2
  have hL := jl_factsC (kk := kk) e4 hw.2.2.1.1.2
  have := ev_rows (d := d) (h := h) (Q := Q) (S := h.1) (q := jl_q hm) (st := jl_st hm) (cn := jl_cn hm kk) hw hR h0 hm1 hm5 hn hL e2 (fun z S' f => k S' (-2) f (Or.inl ⟨z, rfl⟩)) (fun z S' f f7 g1 g2 => k S' _ f (Or.inr ⟨z, congrArg nI (jl_count hw h0 hM), f7, g1, g2⟩))
  rw [jL_self] at this
  exact this
theorem eM_rowsV {d : Nat} {Q : Option jx_V → jx_H → Prop} {hc hm : jx_H} {b m n : Nat} {kk : Int32} (hw : jz_W hm b) (h0 : 0 < jz_nm hm b) (hm5 : m ≤ 5) (hn : n ≤ 30) (e3 : jh_I hm 11 0 80 = nI n) (e4 : ∀ j, j < n → jz_Le1 hc hm b j)
  (k : ∀ (S' : Nat → Nat → Int32) (v : Int32), jz_S hm S' → (50000 < jl_P (jl_w hm b) m ∧ v = -2 ∨ ¬ 50000 < jl_P (jl_w hm b) m ∧ v = nI (jl_cnt (jl_gm hm b kk n m (jl_q hm) (jl_mo hm) (jl_e hm)) (jl_P (jl_w hm b) m)) ∧ ∀ x, x < m → jl_kp hm b (jl_gm hm b kk n m (jl_q hm) (jl_mo hm) (jl_e hm)) (jl_P (jl_w hm b) m) x S') → Q (some (jv_i v)) (jS hm S')) :
  jx_Ev jm_MD_countRows (d + 5) 0 0 false 1 [jv_r 11 0, jv_i (nI m), jv_i kk] hm Q := by
  have hM := jl_factsM e4 hw.2.2.1.1.2
  have := eM_countRows (d := d) (Q := Q) (S := fun a => jh_I hm a 0) (kk := kk) hw (fun _ _ => rfl) h0 hM hn e3 hm5 (fun z S' f => k S' (-2) f (Or.inl ⟨z, rfl⟩)) (fun z S' f g => k S' _ f (Or.inr ⟨z, rfl, g⟩))
  rw [jS_self] at this
  exact this
theorem jl_vv {A B C : Prop} {c : Nat} {v v' : Int32} (h : A ∧ v = -2 ∨ ¬ A ∧ v = nI c ∧ B) (h' : A ∧ v' = -2 ∨ ¬ A ∧ v' = nI c ∧ C) : v = v' := by
  rcases h with ⟨z1, z2⟩ | ⟨z1, z2, -⟩
  · rcases h' with ⟨y1, y2⟩ | ⟨y1, y2, -⟩
    · rw [z2, y2]
    · exact absurd z1 y1
  · rcases h' with ⟨y1, y2⟩ | ⟨y1, y2, -⟩
    · exact absurd y1 z1
    · rw [z2, y2]
theorem jl_vi {A B : Prop} {c : Nat} {v : Int32} (hc : c < 2 ^ 31) (h : A ∧ v = -2 ∨ ¬ A ∧ v = nI c ∧ B) : v.toInt = -2 ∧ A ∨ v.toInt = (c : Int) ∧ v = nI c ∧ B := by
  rcases h with ⟨z1, z2⟩ | ⟨z1, z2, z3⟩
  · exact Or.inl ⟨by rw [z2]; rfl, z1⟩
  · exact Or.inr ⟨by rw [z2, nI_toInt hc], z2, z3⟩
set_option maxHeartbeats 800000 in
set_option maxRecDepth 100000 in
theorem pd_lengths {d : Nat} {hc hm : jx_H} {x y : Int32} (hRel : jz_Rel hc hm) : jx_Ev jm_JV_lengths (d + 40) 0 0 false 0 [jv_r 10 0, jv_i x, jv_i y] hc (fun r hc' => jx_Ev jm_MD_lengths (d + 40) 0 0 false 1 [jv_r 11 0, jv_i x, jv_i y] hm (fun r' hm' => r = r' ∧ jz_Rel hc' hm')) := by
  have hRel0 := hRel
  obtain ⟨b, r, ⟨hw, hG, hr2, hto, hsp, hR, hA, hL⟩, hTa, hFa, hLy, hTi, hLe, hBo, hAc, hWo⟩ := hRel
  have hb2 := hw.2.1
  have hnm := hw.2.2.1.1
  have hnm5 := hnm.2
  have km1 : (jh_I hc 7 r 0).toInt = (jz_nm hm b : Int) := by rw [hR.1]; exact (congrArg Int32.toInt hnm.1).trans (nI_toInt (by omega))
  have km2 : (jh_I hm 66 0 b).toInt = (jz_nm hm b : Int) := (congrArg Int32.toInt hnm.1).trans (nI_toInt (by omega))
  have km3 : (jh_I hm 66 0 b - 1).toInt = (jz_nm hm b : Int) - 1 := by rw [Int32.toInt_sub, km2, show (1 : Int32).toInt = 1 from rfl]; exact jn_sm (by omega) (by omega)
  obtain ⟨n, e1, e2, e3, e4⟩ := hLe
  rcases jz_3 (A := jC hm b 0 0 = 0) x 1 5 (by decide) with hmo | ⟨hmo, i, rfl, hi1, hi, hi2⟩ | ⟨hmo, hi⟩
  · have hn0 : (jz_nm hm b : Int) = 0 := by rw [← km2]; exact congrArg Int32.toInt hmo
    show jx_W (jm_JV_lengths, d + 40, 0, 0, false, 0, _) _ 0 0 0 [some (jv_r 10 0), some (jv_i x), some (jv_i y)] [] _
    refine jr_aload rfl rfl ?_
    refine jr_getM rfl rfl rfl rfl hto ?_
    refine jr_getI rfl rfl ?_
    refine jr_if_eq rfl (fun c3 => ?_) (fun c3 => ?_)
    · refine jr_ic rfl ?_
      refine jr_iret rfl rfl (Nat.zero_le _) (Nat.zero_le _) ?_
      show jx_W (jm_MD_lengths, d + 40, 0, 0, false, 1, _) _ 0 0 0 [some _, some _, some _] [] _
      refine jr_iload rfl rfl ?_
      refine jr_ic rfl ?_
      refine jr_ic rfl ?_
      refine jr_cs3 (mc' := 0) (ms' := 0) rfl jm_MD_isIn_n jm_MD_isIn_f rfl rfl rfl rfl rfl (Nat.zero_le _) (Nat.zero_le _) ?_
      show jx_W (jm_MD_isIn, _, _, _, _, _, _) _ 0 0 0 [some _, some _, some _] [] _
      refine jr_iload rfl rfl ?_
      refine jr_iload rfl rfl ?_
      refine jr_icmp_lt rfl (fun m2MDisIn => ?_) (fun m2MDisIn => ?_)
      · refine jr_ic rfl ?_
        refine jr_zret rfl rfl rfl (Nat.zero_le _) (Nat.zero_le _) ?_
        refine jr_if_eq rfl (fun _ => ?_) (fun z => absurd (by decide) z)
        refine jr_ic rfl ?_
        refine jr_iret rfl rfl (Nat.zero_le _) (Nat.zero_le _) ?_
        first
          | exact ⟨rfl, hRel0⟩
          | (exfalso; omega)
          | (exfalso; simp (disch := omega) only [Int32.lt_iff_toInt_lt, Int32.le_iff_toInt_le, ← Int32.toInt_inj, Int32.reduceToInt, nI_toInt] at c3 m2MDisIn; done)
          | (exfalso; simp (disch := omega) only [Int32.lt_iff_toInt_lt, Int32.le_iff_toInt_le, ← Int32.toInt_inj, Int32.reduceToInt, nI_toInt] at c3 m2MDisIn; omega)
      · refine jr_iload rfl rfl ?_
        refine jr_iload rfl rfl ?_
        refine jr_icmp_gt rfl (fun m5MDisIn => ?_) (fun m5MDisIn => ?_)
        · refine jr_ic rfl ?_
          refine jr_zret rfl rfl rfl (Nat.zero_le _) (Nat.zero_le _) ?_
          refine jr_if_eq rfl (fun _ => ?_) (fun z => absurd (by decide) z)
          refine jr_ic rfl ?_
          refine jr_iret rfl rfl (Nat.zero_le _) (Nat.zero_le _) ?_
          first
            | exact ⟨rfl, hRel0⟩
            | (exfalso; omega)
            | (exfalso; simp (disch := omega) only [Int32.lt_iff_toInt_lt, Int32.le_iff_toInt_le, ← Int32.toInt_inj, Int32.reduceToInt, nI_toInt] at c3 m2MDisIn m5MDisIn; done)
            | (exfalso; simp (disch := omega) only [Int32.lt_iff_toInt_lt, Int32.le_iff_toInt_le, ← Int32.toInt_inj, Int32.reduceToInt, nI_toInt] at c3 m2MDisIn m5MDisIn; omega)
        · refine jr_ic rfl ?_
          refine jr_goto rfl ?_
          refine jr_zret rfl rfl rfl (Nat.zero_le _) (Nat.zero_le _) ?_
          refine jr_if_eq rfl (fun z => absurd z (by decide)) (fun _ => ?_)
          refine jr_aload rfl rfl ?_
          refine jr_cv0 (mc' := 0) (ms' := 0) rfl jm_MD_hasMonths_n jm_MD_hasMonths_f rfl rfl rfl rfl rfl rfl rfl (Nat.zero_le _) (Nat.zero_le _) ?_
          show jx_W (jm_MD_hasMonths, _, _, _, _, _, _) _ 0 0 0 [some _] [] _
          refine jr_aload rfl rfl ?_
          refine jr_getR rfl rfl rfl rfl (Or.inl rfl) ?_
          refine jr_aload rfl rfl ?_
          refine jr_getI rfl rfl ?_
          refine jr_iald (len := 2) rfl rfl hw.1 (by omega) ?_
          refine jr_if_le rfl (fun m5MDhasMonths => ?_) (fun m5MDhasMonths => ?_)
          · refine jr_ic rfl ?_
            refine jr_zret rfl rfl rfl (Nat.zero_le _) (Nat.zero_le _) ?_
            refine jr_if_eq rfl (fun _ => ?_) (fun z => absurd (by decide) z)
            refine jr_ic rfl ?_
            refine jr_iret rfl rfl (Nat.zero_le _) (Nat.zero_le _) ?_
            first
              | exact ⟨rfl, hRel0⟩
              | (exfalso; omega)
              | (exfalso; simp (disch := omega) only [Int32.lt_iff_toInt_lt, Int32.le_iff_toInt_le, ← Int32.toInt_inj, Int32.reduceToInt, nI_toInt] at c3 m2MDisIn m5MDisIn m5MDhasMonths; done)
              | (exfalso; simp (disch := omega) only [Int32.lt_iff_toInt_lt, Int32.le_iff_toInt_le, ← Int32.toInt_inj, Int32.reduceToInt, nI_toInt] at c3 m2MDisIn m5MDisIn m5MDhasMonths; omega)
          · refine jr_ic rfl ?_
            refine jr_goto rfl ?_
            refine jr_zret rfl rfl rfl (Nat.zero_le _) (Nat.zero_le _) ?_
            refine jr_if_eq rfl (fun z => absurd z (by decide)) (fun _ => ?_)
            refine jr_aload rfl rfl ?_
            refine jr_iload rfl rfl ?_
            refine jr_iload rfl rfl ?_
            refine jr_cv2 (mc' := 0) (ms' := 0) rfl jm_MD_countRows_n jm_MD_countRows_f rfl rfl rfl rfl rfl rfl rfl (Nat.zero_le _) (Nat.zero_le _) ?_
            first
              | (exfalso; omega)
              | (exfalso; simp (disch := omega) only [Int32.lt_iff_toInt_lt, Int32.le_iff_toInt_le, ← Int32.toInt_inj, Int32.reduceToInt, nI_toInt] at c3 m2MDisIn m5MDisIn m5MDhasMonths; done)
              | (exfalso; simp (disch := omega) only [Int32.lt_iff_toInt_lt, Int32.le_iff_toInt_le, ← Int32.toInt_inj, Int32.reduceToInt, nI_toInt] at c3 m2MDisIn m5MDisIn m5MDhasMonths; omega)
    · refine jr_aload rfl rfl ?_
      refine jr_getR rfl rfl rfl rfl (Or.inl rfl) ?_
      refine jr_iload rfl rfl ?_
      refine jr_cv1 (mc' := 0) (ms' := 0) rfl jm_Led_canAsk_n jm_Led_canAsk_f rfl rfl rfl rfl rfl rfl rfl (Nat.zero_le _) (Nat.zero_le _) ?_
      show jx_W (jm_Led_canAsk, _, _, _, _, _, _) _ 0 0 0 [some _, some _] [] _
      refine jr_iload rfl rfl ?_
      refine jr_ic rfl ?_
      refine jr_icmp_lt rfl (fun c2LedcanAsk => ?_) (fun c2LedcanAsk => ?_)
      · refine jr_ic rfl ?_
        refine jr_zret rfl rfl rfl (Nat.zero_le _) (Nat.zero_le _) ?_
        refine jr_if_ne rfl (fun z => absurd (by decide) z) (fun _ => ?_)
        refine jr_ic rfl ?_
        refine jr_iret rfl rfl (Nat.zero_le _) (Nat.zero_le _) ?_
        show jx_W (jm_MD_lengths, d + 40, 0, 0, false, 1, _) _ 0 0 0 [some _, some _, some _] [] _
        refine jr_iload rfl rfl ?_
        refine jr_ic rfl ?_
        refine jr_ic rfl ?_
        refine jr_cs3 (mc' := 0) (ms' := 0) rfl jm_MD_isIn_n jm_MD_isIn_f rfl rfl rfl rfl rfl (Nat.zero_le _) (Nat.zero_le _) ?_
        show jx_W (jm_MD_isIn, _, _, _, _, _, _) _ 0 0 0 [some _, some _, some _] [] _
        refine jr_iload rfl rfl ?_
        refine jr_iload rfl rfl ?_
        refine jr_icmp_lt rfl (fun m2MDisIn => ?_) (fun m2MDisIn => ?_)
        · refine jr_ic rfl ?_
          refine jr_zret rfl rfl rfl (Nat.zero_le _) (Nat.zero_le _) ?_
          refine jr_if_eq rfl (fun _ => ?_) (fun z => absurd (by decide) z)
          refine jr_ic rfl ?_
          refine jr_iret rfl rfl (Nat.zero_le _) (Nat.zero_le _) ?_
          first
            | exact ⟨rfl, hRel0⟩
            | (exfalso; omega)
            | (exfalso; simp (disch := omega) only [Int32.lt_iff_toInt_lt, Int32.le_iff_toInt_le, ← Int32.toInt_inj, Int32.reduceToInt, nI_toInt] at c3 c2LedcanAsk m2MDisIn; done)
            | (exfalso; simp (disch := omega) only [Int32.lt_iff_toInt_lt, Int32.le_iff_toInt_le, ← Int32.toInt_inj, Int32.reduceToInt, nI_toInt] at c3 c2LedcanAsk m2MDisIn; omega)
        · refine jr_iload rfl rfl ?_
          refine jr_iload rfl rfl ?_
          refine jr_icmp_gt rfl (fun m5MDisIn => ?_) (fun m5MDisIn => ?_)
          · refine jr_ic rfl ?_
            refine jr_zret rfl rfl rfl (Nat.zero_le _) (Nat.zero_le _) ?_
            refine jr_if_eq rfl (fun _ => ?_) (fun z => absurd (by decide) z)
            refine jr_ic rfl ?_
            refine jr_iret rfl rfl (Nat.zero_le _) (Nat.zero_le _) ?_
            first
              | exact ⟨rfl, hRel0⟩
              | (exfalso; omega)
              | (exfalso; simp (disch := omega) only [Int32.lt_iff_toInt_lt, Int32.le_iff_toInt_le, ← Int32.toInt_inj, Int32.reduceToInt, nI_toInt] at c3 c2LedcanAsk m2MDisIn m5MDisIn; done)
              | (exfalso; simp (disch := omega) only [Int32.lt_iff_toInt_lt, Int32.le_iff_toInt_le, ← Int32.toInt_inj, Int32.reduceToInt, nI_toInt] at c3 c2LedcanAsk m2MDisIn m5MDisIn; omega)
          · refine jr_ic rfl ?_
            refine jr_goto rfl ?_
            refine jr_zret rfl rfl rfl (Nat.zero_le _) (Nat.zero_le _) ?_
            refine jr_if_eq rfl (fun z => absurd z (by decide)) (fun _ => ?_)
            refine jr_aload rfl rfl ?_
            refine jr_cv0 (mc' := 0) (ms' := 0) rfl jm_MD_hasMonths_n jm_MD_hasMonths_f rfl rfl rfl rfl rfl rfl rfl (Nat.zero_le _) (Nat.zero_le _) ?_
            show jx_W (jm_MD_hasMonths, _, _, _, _, _, _) _ 0 0 0 [some _] [] _
            refine jr_aload rfl rfl ?_
            refine jr_getR rfl rfl rfl rfl (Or.inl rfl) ?_
            refine jr_aload rfl rfl ?_
            refine jr_getI rfl rfl ?_
            refine jr_iald (len := 2) rfl rfl hw.1 (by omega) ?_
            refine jr_if_le rfl (fun m5MDhasMonths => ?_) (fun m5MDhasMonths => ?_)
            · refine jr_ic rfl ?_
              refine jr_zret rfl rfl rfl (Nat.zero_le _) (Nat.zero_le _) ?_
              refine jr_if_eq rfl (fun _ => ?_) (fun z => absurd (by decide) z)
              refine jr_ic rfl ?_
              refine jr_iret rfl rfl (Nat.zero_le _) (Nat.zero_le _) ?_
              first
                | exact ⟨rfl, hRel0⟩
                | (exfalso; omega)
                | (exfalso; simp (disch := omega) only [Int32.lt_iff_toInt_lt, Int32.le_iff_toInt_le, ← Int32.toInt_inj, Int32.reduceToInt, nI_toInt] at c3 c2LedcanAsk m2MDisIn m5MDisIn m5MDhasMonths; done)
                | (exfalso; simp (disch := omega) only [Int32.lt_iff_toInt_lt, Int32.le_iff_toInt_le, ← Int32.toInt_inj, Int32.reduceToInt, nI_toInt] at c3 c2LedcanAsk m2MDisIn m5MDisIn m5MDhasMonths; omega)
            · refine jr_ic rfl ?_
              refine jr_goto rfl ?_
              refine jr_zret rfl rfl rfl (Nat.zero_le _) (Nat.zero_le _) ?_
              refine jr_if_eq rfl (fun z => absurd z (by decide)) (fun _ => ?_)
              refine jr_aload rfl rfl ?_
              refine jr_iload rfl rfl ?_
              refine jr_iload rfl rfl ?_
              refine jr_cv2 (mc' := 0) (ms' := 0) rfl jm_MD_countRows_n jm_MD_countRows_f rfl rfl rfl rfl rfl rfl rfl (Nat.zero_le _) (Nat.zero_le _) ?_
              first
                | (exfalso; omega)
                | (exfalso; simp (disch := omega) only [Int32.lt_iff_toInt_lt, Int32.le_iff_toInt_le, ← Int32.toInt_inj, Int32.reduceToInt, nI_toInt] at c3 c2LedcanAsk m2MDisIn m5MDisIn m5MDhasMonths; done)
                | (exfalso; simp (disch := omega) only [Int32.lt_iff_toInt_lt, Int32.le_iff_toInt_le, ← Int32.toInt_inj, Int32.reduceToInt, nI_toInt] at c3 c2LedcanAsk m2MDisIn m5MDisIn m5MDhasMonths; omega)
      · refine jr_iload rfl rfl ?_
        refine jr_ic rfl ?_
        refine jr_icmp_gt rfl (fun c5LedcanAsk => ?_) (fun c5LedcanAsk => ?_)
        · refine jr_ic rfl ?_
          refine jr_zret rfl rfl rfl (Nat.zero_le _) (Nat.zero_le _) ?_
          refine jr_if_ne rfl (fun z => absurd (by decide) z) (fun _ => ?_)
          refine jr_ic rfl ?_
          refine jr_iret rfl rfl (Nat.zero_le _) (Nat.zero_le _) ?_
          show jx_W (jm_MD_lengths, d + 40, 0, 0, false, 1, _) _ 0 0 0 [some _, some _, some _] [] _
          refine jr_iload rfl rfl ?_
          refine jr_ic rfl ?_
          refine jr_ic rfl ?_
          refine jr_cs3 (mc' := 0) (ms' := 0) rfl jm_MD_isIn_n jm_MD_isIn_f rfl rfl rfl rfl rfl (Nat.zero_le _) (Nat.zero_le _) ?_
          show jx_W (jm_MD_isIn, _, _, _, _, _, _) _ 0 0 0 [some _, some _, some _] [] _
          refine jr_iload rfl rfl ?_
          refine jr_iload rfl rfl ?_
          refine jr_icmp_lt rfl (fun m2MDisIn => ?_) (fun m2MDisIn => ?_)
          · refine jr_ic rfl ?_
            refine jr_zret rfl rfl rfl (Nat.zero_le _) (Nat.zero_le _) ?_
            refine jr_if_eq rfl (fun _ => ?_) (fun z => absurd (by decide) z)
            refine jr_ic rfl ?_
            refine jr_iret rfl rfl (Nat.zero_le _) (Nat.zero_le _) ?_
            first
              | exact ⟨rfl, hRel0⟩
              | (exfalso; omega)
              | (exfalso; simp (disch := omega) only [Int32.lt_iff_toInt_lt, Int32.le_iff_toInt_le, ← Int32.toInt_inj, Int32.reduceToInt, nI_toInt] at c3 c2LedcanAsk c5LedcanAsk m2MDisIn; done)
              | (exfalso; simp (disch := omega) only [Int32.lt_iff_toInt_lt, Int32.le_iff_toInt_le, ← Int32.toInt_inj, Int32.reduceToInt, nI_toInt] at c3 c2LedcanAsk c5LedcanAsk m2MDisIn; omega)
          · refine jr_iload rfl rfl ?_
            refine jr_iload rfl rfl ?_
            refine jr_icmp_gt rfl (fun m5MDisIn => ?_) (fun m5MDisIn => ?_)
            · refine jr_ic rfl ?_
              refine jr_zret rfl rfl rfl (Nat.zero_le _) (Nat.zero_le _) ?_
              refine jr_if_eq rfl (fun _ => ?_) (fun z => absurd (by decide) z)
              refine jr_ic rfl ?_
              refine jr_iret rfl rfl (Nat.zero_le _) (Nat.zero_le _) ?_
              first
                | exact ⟨rfl, hRel0⟩
                | (exfalso; omega)
                | (exfalso; simp (disch := omega) only [Int32.lt_iff_toInt_lt, Int32.le_iff_toInt_le, ← Int32.toInt_inj, Int32.reduceToInt, nI_toInt] at c3 c2LedcanAsk c5LedcanAsk m2MDisIn m5MDisIn; done)
                | (exfalso; simp (disch := omega) only [Int32.lt_iff_toInt_lt, Int32.le_iff_toInt_le, ← Int32.toInt_inj, Int32.reduceToInt, nI_toInt] at c3 c2LedcanAsk c5LedcanAsk m2MDisIn m5MDisIn; omega)
            · refine jr_ic rfl ?_
              refine jr_goto rfl ?_
              refine jr_zret rfl rfl rfl (Nat.zero_le _) (Nat.zero_le _) ?_
              refine jr_if_eq rfl (fun z => absurd z (by decide)) (fun _ => ?_)
              refine jr_aload rfl rfl ?_
              refine jr_cv0 (mc' := 0) (ms' := 0) rfl jm_MD_hasMonths_n jm_MD_hasMonths_f rfl rfl rfl rfl rfl rfl rfl (Nat.zero_le _) (Nat.zero_le _) ?_
              show jx_W (jm_MD_hasMonths, _, _, _, _, _, _) _ 0 0 0 [some _] [] _
              refine jr_aload rfl rfl ?_
              refine jr_getR rfl rfl rfl rfl (Or.inl rfl) ?_
              refine jr_aload rfl rfl ?_
              refine jr_getI rfl rfl ?_
              refine jr_iald (len := 2) rfl rfl hw.1 (by omega) ?_
              refine jr_if_le rfl (fun m5MDhasMonths => ?_) (fun m5MDhasMonths => ?_)
              · refine jr_ic rfl ?_
                refine jr_zret rfl rfl rfl (Nat.zero_le _) (Nat.zero_le _) ?_
                refine jr_if_eq rfl (fun _ => ?_) (fun z => absurd (by decide) z)
                refine jr_ic rfl ?_
                refine jr_iret rfl rfl (Nat.zero_le _) (Nat.zero_le _) ?_
                first
                  | exact ⟨rfl, hRel0⟩
                  | (exfalso; omega)
                  | (exfalso; simp (disch := omega) only [Int32.lt_iff_toInt_lt, Int32.le_iff_toInt_le, ← Int32.toInt_inj, Int32.reduceToInt, nI_toInt] at c3 c2LedcanAsk c5LedcanAsk m2MDisIn m5MDisIn m5MDhasMonths; done)
                  | (exfalso; simp (disch := omega) only [Int32.lt_iff_toInt_lt, Int32.le_iff_toInt_le, ← Int32.toInt_inj, Int32.reduceToInt, nI_toInt] at c3 c2LedcanAsk c5LedcanAsk m2MDisIn m5MDisIn m5MDhasMonths; omega)
              · refine jr_ic rfl ?_
                refine jr_goto rfl ?_
                refine jr_zret rfl rfl rfl (Nat.zero_le _) (Nat.zero_le _) ?_
                refine jr_if_eq rfl (fun z => absurd z (by decide)) (fun _ => ?_)
                refine jr_aload rfl rfl ?_
                refine jr_iload rfl rfl ?_
                refine jr_iload rfl rfl ?_
                refine jr_cv2 (mc' := 0) (ms' := 0) rfl jm_MD_countRows_n jm_MD_countRows_f rfl rfl rfl rfl rfl rfl rfl (Nat.zero_le _) (Nat.zero_le _) ?_
                first
                  | (exfalso; omega)
                  | (exfalso; simp (disch := omega) only [Int32.lt_iff_toInt_lt, Int32.le_iff_toInt_le, ← Int32.toInt_inj, Int32.reduceToInt, nI_toInt] at c3 c2LedcanAsk c5LedcanAsk m2MDisIn m5MDisIn m5MDhasMonths; done)
                  | (exfalso; simp (disch := omega) only [Int32.lt_iff_toInt_lt, Int32.le_iff_toInt_le, ← Int32.toInt_inj, Int32.reduceToInt, nI_toInt] at c3 c2LedcanAsk c5LedcanAsk m2MDisIn m5MDisIn m5MDhasMonths; omega)
        · refine jr_ic rfl ?_
          refine jr_goto rfl ?_
          refine jr_zret rfl rfl rfl (Nat.zero_le _) (Nat.zero_le _) ?_
          refine jr_if_ne rfl (fun _ => ?_) (fun z => absurd z (by decide))
          refine jr_aload rfl rfl ?_
          refine jr_getR rfl rfl rfl rfl (Or.inl rfl) ?_
          refine jr_aload rfl rfl ?_
          refine jr_getM rfl rfl rfl rfl hto ?_
          refine jr_iload rfl rfl ?_
          refine jr_iload rfl rfl ?_
          refine jr_cv3 (mc' := 0) (ms' := 0) rfl jm_Led_rows_n jm_Led_rows_f rfl rfl rfl rfl rfl rfl rfl (Nat.zero_le _) (Nat.zero_le _) ?_
          first
            | (exfalso; omega)
            | (exfalso; simp (disch := omega) only [Int32.lt_iff_toInt_lt, Int32.le_iff_toInt_le, ← Int32.toInt_inj, Int32.reduceToInt, nI_toInt] at c3 c2LedcanAsk c5LedcanAsk; done)
            | (exfalso; simp (disch := omega) only [Int32.lt_iff_toInt_lt, Int32.le_iff_toInt_le, ← Int32.toInt_inj, Int32.reduceToInt, nI_toInt] at c3 c2LedcanAsk c5LedcanAsk; omega)
  · have hn1 : 0 < jz_nm hm b := by
      rcases Nat.eq_zero_or_pos (jz_nm hm b) with e | e
      · rw [e] at hnm; exact absurd hnm.1 hmo
      · exact e
    have hn0n : 0 < jz_nm hm b := hn1
    show jx_W (jm_JV_lengths, d + 40, 0, 0, false, 0, _) _ 0 0 0 [some (jv_r 10 0), some (jv_i (nI i)), some (jv_i y)] [] _
    refine jr_aload rfl rfl ?_
    refine jr_getM rfl rfl rfl rfl hto ?_
    refine jr_getI rfl rfl ?_
    refine jr_if_eq rfl (fun c3 => ?_) (fun c3 => ?_)
    · refine jr_ic rfl ?_
      refine jr_iret rfl rfl (Nat.zero_le _) (Nat.zero_le _) ?_
      show jx_W (jm_MD_lengths, d + 40, 0, 0, false, 1, _) _ 0 0 0 [some _, some _, some _] [] _
      refine jr_iload rfl rfl ?_
      refine jr_ic rfl ?_
      refine jr_ic rfl ?_
      refine jr_cs3 (mc' := 0) (ms' := 0) rfl jm_MD_isIn_n jm_MD_isIn_f rfl rfl rfl rfl rfl (Nat.zero_le _) (Nat.zero_le _) ?_
      show jx_W (jm_MD_isIn, _, _, _, _, _, _) _ 0 0 0 [some _, some _, some _] [] _
      refine jr_iload rfl rfl ?_
      refine jr_iload rfl rfl ?_
      refine jr_icmp_lt rfl (fun m2MDisIn => ?_) (fun m2MDisIn => ?_)
      · refine jr_ic rfl ?_
        refine jr_zret rfl rfl rfl (Nat.zero_le _) (Nat.zero_le _) ?_
        refine jr_if_eq rfl (fun _ => ?_) (fun z => absurd (by decide) z)
        refine jr_ic rfl ?_
        refine jr_iret rfl rfl (Nat.zero_le _) (Nat.zero_le _) ?_
        first
          | exact ⟨rfl, hRel0⟩
          | (exfalso; omega)
          | (exfalso; simp (disch := omega) only [Int32.lt_iff_toInt_lt, Int32.le_iff_toInt_le, ← Int32.toInt_inj, Int32.reduceToInt, nI_toInt] at c3 m2MDisIn; done)
          | (exfalso; simp (disch := omega) only [Int32.lt_iff_toInt_lt, Int32.le_iff_toInt_le, ← Int32.toInt_inj, Int32.reduceToInt, nI_toInt] at c3 m2MDisIn; omega)
      · refine jr_iload rfl rfl ?_
        refine jr_iload rfl rfl ?_
        refine jr_icmp_gt rfl (fun m5MDisIn => ?_) (fun m5MDisIn => ?_)
        · refine jr_ic rfl ?_
          refine jr_zret rfl rfl rfl (Nat.zero_le _) (Nat.zero_le _) ?_
          refine jr_if_eq rfl (fun _ => ?_) (fun z => absurd (by decide) z)
          refine jr_ic rfl ?_
          refine jr_iret rfl rfl (Nat.zero_le _) (Nat.zero_le _) ?_
          first
            | exact ⟨rfl, hRel0⟩
            | (exfalso; omega)
            | (exfalso; simp (disch := omega) only [Int32.lt_iff_toInt_lt, Int32.le_iff_toInt_le, ← Int32.toInt_inj, Int32.reduceToInt, nI_toInt] at c3 m2MDisIn m5MDisIn; done)
            | (exfalso; simp (disch := omega) only [Int32.lt_iff_toInt_lt, Int32.le_iff_toInt_le, ← Int32.toInt_inj, Int32.reduceToInt, nI_toInt] at c3 m2MDisIn m5MDisIn; omega)
        · refine jr_ic rfl ?_
          refine jr_goto rfl ?_
          refine jr_zret rfl rfl rfl (Nat.zero_le _) (Nat.zero_le _) ?_
          refine jr_if_eq rfl (fun z => absurd z (by decide)) (fun _ => ?_)
          refine jr_aload rfl rfl ?_
          refine jr_cv0 (mc' := 0) (ms' := 0) rfl jm_MD_hasMonths_n jm_MD_hasMonths_f rfl rfl rfl rfl rfl rfl rfl (Nat.zero_le _) (Nat.zero_le _) ?_
          show jx_W (jm_MD_hasMonths, _, _, _, _, _, _) _ 0 0 0 [some _] [] _
          refine jr_aload rfl rfl ?_
          refine jr_getR rfl rfl rfl rfl (Or.inl rfl) ?_
          refine jr_aload rfl rfl ?_
          refine jr_getI rfl rfl ?_
          refine jr_iald (len := 2) rfl rfl hw.1 (by omega) ?_
          refine jr_if_le rfl (fun m5MDhasMonths => ?_) (fun m5MDhasMonths => ?_)
          · refine jr_ic rfl ?_
            refine jr_zret rfl rfl rfl (Nat.zero_le _) (Nat.zero_le _) ?_
            refine jr_if_eq rfl (fun _ => ?_) (fun z => absurd (by decide) z)
            refine jr_ic rfl ?_
            refine jr_iret rfl rfl (Nat.zero_le _) (Nat.zero_le _) ?_
            first
              | exact ⟨rfl, hRel0⟩
              | (exfalso; omega)
              | (exfalso; simp (disch := omega) only [Int32.lt_iff_toInt_lt, Int32.le_iff_toInt_le, ← Int32.toInt_inj, Int32.reduceToInt, nI_toInt] at c3 m2MDisIn m5MDisIn m5MDhasMonths; done)
              | (exfalso; simp (disch := omega) only [Int32.lt_iff_toInt_lt, Int32.le_iff_toInt_le, ← Int32.toInt_inj, Int32.reduceToInt, nI_toInt] at c3 m2MDisIn m5MDisIn m5MDhasMonths; omega)
          · refine jr_ic rfl ?_
            refine jr_goto rfl ?_
            refine jr_zret rfl rfl rfl (Nat.zero_le _) (Nat.zero_le _) ?_
            refine jr_if_eq rfl (fun z => absurd z (by decide)) (fun _ => ?_)
            refine jr_aload rfl rfl ?_
            refine jr_iload rfl rfl ?_
            refine jr_iload rfl rfl ?_
            refine jr_cv2 (mc' := 0) (ms' := 0) rfl jm_MD_countRows_n jm_MD_countRows_f rfl rfl rfl rfl rfl rfl rfl (Nat.zero_le _) (Nat.zero_le _) ?_
            refine eM_rowsV (kk := y) hw hn0n hi e1 e3 e4 (fun S5 v5 hS5 hv5 => ?_)
            refine jr_goto rfl ?_
            refine jr_iret rfl rfl (Nat.zero_le _) (Nat.zero_le _) ?_
            first
              | exact ⟨rfl, hRel0⟩
              | (exfalso; omega)
              | (exfalso; simp (disch := omega) only [Int32.lt_iff_toInt_lt, Int32.le_iff_toInt_le, ← Int32.toInt_inj, Int32.reduceToInt, nI_toInt] at c3 m2MDisIn m5MDisIn m5MDhasMonths; done)
              | (exfalso; simp (disch := omega) only [Int32.lt_iff_toInt_lt, Int32.le_iff_toInt_le, ← Int32.toInt_inj, Int32.reduceToInt, nI_toInt] at c3 m2MDisIn m5MDisIn m5MDhasMonths; omega)
    · refine jr_aload rfl rfl ?_
      refine jr_getR rfl rfl rfl rfl (Or.inl rfl) ?_
      refine jr_iload rfl rfl ?_
      refine jr_cv1 (mc' := 0) (ms' := 0) rfl jm_Led_canAsk_n jm_Led_canAsk_f rfl rfl rfl rfl rfl rfl rfl (Nat.zero_le _) (Nat.zero_le _) ?_
      show jx_W (jm_Led_canAsk, _, _, _, _, _, _) _ 0 0 0 [some _, some _] [] _
      refine jr_iload rfl rfl ?_
      refine jr_ic rfl ?_
      refine jr_icmp_lt rfl (fun c2LedcanAsk => ?_) (fun c2LedcanAsk => ?_)
      · refine jr_ic rfl ?_
        refine jr_zret rfl rfl rfl (Nat.zero_le _) (Nat.zero_le _) ?_
        refine jr_if_ne rfl (fun z => absurd (by decide) z) (fun _ => ?_)
        refine jr_ic rfl ?_
        refine jr_iret rfl rfl (Nat.zero_le _) (Nat.zero_le _) ?_
        show jx_W (jm_MD_lengths, d + 40, 0, 0, false, 1, _) _ 0 0 0 [some _, some _, some _] [] _
        refine jr_iload rfl rfl ?_
        refine jr_ic rfl ?_
        refine jr_ic rfl ?_
        refine jr_cs3 (mc' := 0) (ms' := 0) rfl jm_MD_isIn_n jm_MD_isIn_f rfl rfl rfl rfl rfl (Nat.zero_le _) (Nat.zero_le _) ?_
        show jx_W (jm_MD_isIn, _, _, _, _, _, _) _ 0 0 0 [some _, some _, some _] [] _
        refine jr_iload rfl rfl ?_
        refine jr_iload rfl rfl ?_
        refine jr_icmp_lt rfl (fun m2MDisIn => ?_) (fun m2MDisIn => ?_)
        · refine jr_ic rfl ?_
          refine jr_zret rfl rfl rfl (Nat.zero_le _) (Nat.zero_le _) ?_
          refine jr_if_eq rfl (fun _ => ?_) (fun z => absurd (by decide) z)
          refine jr_ic rfl ?_
          refine jr_iret rfl rfl (Nat.zero_le _) (Nat.zero_le _) ?_
          first
            | exact ⟨rfl, hRel0⟩
            | (exfalso; omega)
            | (exfalso; simp (disch := omega) only [Int32.lt_iff_toInt_lt, Int32.le_iff_toInt_le, ← Int32.toInt_inj, Int32.reduceToInt, nI_toInt] at c3 c2LedcanAsk m2MDisIn; done)
            | (exfalso; simp (disch := omega) only [Int32.lt_iff_toInt_lt, Int32.le_iff_toInt_le, ← Int32.toInt_inj, Int32.reduceToInt, nI_toInt] at c3 c2LedcanAsk m2MDisIn; omega)
        · refine jr_iload rfl rfl ?_
          refine jr_iload rfl rfl ?_
          refine jr_icmp_gt rfl (fun m5MDisIn => ?_) (fun m5MDisIn => ?_)
          · refine jr_ic rfl ?_
            refine jr_zret rfl rfl rfl (Nat.zero_le _) (Nat.zero_le _) ?_
            refine jr_if_eq rfl (fun _ => ?_) (fun z => absurd (by decide) z)
            refine jr_ic rfl ?_
            refine jr_iret rfl rfl (Nat.zero_le _) (Nat.zero_le _) ?_
            first
              | exact ⟨rfl, hRel0⟩
              | (exfalso; omega)
              | (exfalso; simp (disch := omega) only [Int32.lt_iff_toInt_lt, Int32.le_iff_toInt_le, ← Int32.toInt_inj, Int32.reduceToInt, nI_toInt] at c3 c2LedcanAsk m2MDisIn m5MDisIn; done)
              | (exfalso; simp (disch := omega) only [Int32.lt_iff_toInt_lt, Int32.le_iff_toInt_le, ← Int32.toInt_inj, Int32.reduceToInt, nI_toInt] at c3 c2LedcanAsk m2MDisIn m5MDisIn; omega)
          · refine jr_ic rfl ?_
            refine jr_goto rfl ?_
            refine jr_zret rfl rfl rfl (Nat.zero_le _) (Nat.zero_le _) ?_
            refine jr_if_eq rfl (fun z => absurd z (by decide)) (fun _ => ?_)
            refine jr_aload rfl rfl ?_
            refine jr_cv0 (mc' := 0) (ms' := 0) rfl jm_MD_hasMonths_n jm_MD_hasMonths_f rfl rfl rfl rfl rfl rfl rfl (Nat.zero_le _) (Nat.zero_le _) ?_
            show jx_W (jm_MD_hasMonths, _, _, _, _, _, _) _ 0 0 0 [some _] [] _
            refine jr_aload rfl rfl ?_
            refine jr_getR rfl rfl rfl rfl (Or.inl rfl) ?_
            refine jr_aload rfl rfl ?_
            refine jr_getI rfl rfl ?_
            refine jr_iald (len := 2) rfl rfl hw.1 (by omega) ?_
            refine jr_if_le rfl (fun m5MDhasMonths => ?_) (fun m5MDhasMonths => ?_)
            · refine jr_ic rfl ?_
              refine jr_zret rfl rfl rfl (Nat.zero_le _) (Nat.zero_le _) ?_
              refine jr_if_eq rfl (fun _ => ?_) (fun z => absurd (by decide) z)
              refine jr_ic rfl ?_
              refine jr_iret rfl rfl (Nat.zero_le _) (Nat.zero_le _) ?_
              first
                | exact ⟨rfl, hRel0⟩
                | (exfalso; omega)
                | (exfalso; simp (disch := omega) only [Int32.lt_iff_toInt_lt, Int32.le_iff_toInt_le, ← Int32.toInt_inj, Int32.reduceToInt, nI_toInt] at c3 c2LedcanAsk m2MDisIn m5MDisIn m5MDhasMonths; done)
                | (exfalso; simp (disch := omega) only [Int32.lt_iff_toInt_lt, Int32.le_iff_toInt_le, ← Int32.toInt_inj, Int32.reduceToInt, nI_toInt] at c3 c2LedcanAsk m2MDisIn m5MDisIn m5MDhasMonths; omega)
            · refine jr_ic rfl ?_
              refine jr_goto rfl ?_
              refine jr_zret rfl rfl rfl (Nat.zero_le _) (Nat.zero_le _) ?_
              refine jr_if_eq rfl (fun z => absurd z (by decide)) (fun _ => ?_)
              refine jr_aload rfl rfl ?_
              refine jr_iload rfl rfl ?_
              refine jr_iload rfl rfl ?_
              refine jr_cv2 (mc' := 0) (ms' := 0) rfl jm_MD_countRows_n jm_MD_countRows_f rfl rfl rfl rfl rfl rfl rfl (Nat.zero_le _) (Nat.zero_le _) ?_
              refine eM_rowsV (kk := y) hw hn0n hi e1 e3 e4 (fun S5 v5 hS5 hv5 => ?_)
              refine jr_goto rfl ?_
              refine jr_iret rfl rfl (Nat.zero_le _) (Nat.zero_le _) ?_
              first
                | exact ⟨rfl, hRel0⟩
                | (exfalso; omega)
                | (exfalso; simp (disch := omega) only [Int32.lt_iff_toInt_lt, Int32.le_iff_toInt_le, ← Int32.toInt_inj, Int32.reduceToInt, nI_toInt] at c3 c2LedcanAsk m2MDisIn m5MDisIn m5MDhasMonths; done)
                | (exfalso; simp (disch := omega) only [Int32.lt_iff_toInt_lt, Int32.le_iff_toInt_le, ← Int32.toInt_inj, Int32.reduceToInt, nI_toInt] at c3 c2LedcanAsk m2MDisIn m5MDisIn m5MDhasMonths; omega)
      · refine jr_iload rfl rfl ?_
        refine jr_ic rfl ?_
        refine jr_icmp_gt rfl (fun c5LedcanAsk => ?_) (fun c5LedcanAsk => ?_)
        · refine jr_ic rfl ?_
          refine jr_zret rfl rfl rfl (Nat.zero_le _) (Nat.zero_le _) ?_
          refine jr_if_ne rfl (fun z => absurd (by decide) z) (fun _ => ?_)
          refine jr_ic rfl ?_
          refine jr_iret rfl rfl (Nat.zero_le _) (Nat.zero_le _) ?_
          show jx_W (jm_MD_lengths, d + 40, 0, 0, false, 1, _) _ 0 0 0 [some _, some _, some _] [] _
          refine jr_iload rfl rfl ?_
          refine jr_ic rfl ?_
          refine jr_ic rfl ?_
          refine jr_cs3 (mc' := 0) (ms' := 0) rfl jm_MD_isIn_n jm_MD_isIn_f rfl rfl rfl rfl rfl (Nat.zero_le _) (Nat.zero_le _) ?_
          show jx_W (jm_MD_isIn, _, _, _, _, _, _) _ 0 0 0 [some _, some _, some _] [] _
          refine jr_iload rfl rfl ?_
          refine jr_iload rfl rfl ?_
          refine jr_icmp_lt rfl (fun m2MDisIn => ?_) (fun m2MDisIn => ?_)
          · refine jr_ic rfl ?_
            refine jr_zret rfl rfl rfl (Nat.zero_le _) (Nat.zero_le _) ?_
            refine jr_if_eq rfl (fun _ => ?_) (fun z => absurd (by decide) z)
            refine jr_ic rfl ?_
            refine jr_iret rfl rfl (Nat.zero_le _) (Nat.zero_le _) ?_
            first
              | exact ⟨rfl, hRel0⟩
              | (exfalso; omega)
              | (exfalso; simp (disch := omega) only [Int32.lt_iff_toInt_lt, Int32.le_iff_toInt_le, ← Int32.toInt_inj, Int32.reduceToInt, nI_toInt] at c3 c2LedcanAsk c5LedcanAsk m2MDisIn; done)
              | (exfalso; simp (disch := omega) only [Int32.lt_iff_toInt_lt, Int32.le_iff_toInt_le, ← Int32.toInt_inj, Int32.reduceToInt, nI_toInt] at c3 c2LedcanAsk c5LedcanAsk m2MDisIn; omega)
          · refine jr_iload rfl rfl ?_
            refine jr_iload rfl rfl ?_
            refine jr_icmp_gt rfl (fun m5MDisIn => ?_) (fun m5MDisIn => ?_)
            · refine jr_ic rfl ?_
              refine jr_zret rfl rfl rfl (Nat.zero_le _) (Nat.zero_le _) ?_
              refine jr_if_eq rfl (fun _ => ?_) (fun z => absurd (by decide) z)
              refine jr_ic rfl ?_
              refine jr_iret rfl rfl (Nat.zero_le _) (Nat.zero_le _) ?_
              first
                | exact ⟨rfl, hRel0⟩
                | (exfalso; omega)
                | (exfalso; simp (disch := omega) only [Int32.lt_iff_toInt_lt, Int32.le_iff_toInt_le, ← Int32.toInt_inj, Int32.reduceToInt, nI_toInt] at c3 c2LedcanAsk c5LedcanAsk m2MDisIn m5MDisIn; done)
                | (exfalso; simp (disch := omega) only [Int32.lt_iff_toInt_lt, Int32.le_iff_toInt_le, ← Int32.toInt_inj, Int32.reduceToInt, nI_toInt] at c3 c2LedcanAsk c5LedcanAsk m2MDisIn m5MDisIn; omega)
            · refine jr_ic rfl ?_
              refine jr_goto rfl ?_
              refine jr_zret rfl rfl rfl (Nat.zero_le _) (Nat.zero_le _) ?_
              refine jr_if_eq rfl (fun z => absurd z (by decide)) (fun _ => ?_)
              refine jr_aload rfl rfl ?_
              refine jr_cv0 (mc' := 0) (ms' := 0) rfl jm_MD_hasMonths_n jm_MD_hasMonths_f rfl rfl rfl rfl rfl rfl rfl (Nat.zero_le _) (Nat.zero_le _) ?_
              show jx_W (jm_MD_hasMonths, _, _, _, _, _, _) _ 0 0 0 [some _] [] _
              refine jr_aload rfl rfl ?_
              refine jr_getR rfl rfl rfl rfl (Or.inl rfl) ?_
              refine jr_aload rfl rfl ?_
              refine jr_getI rfl rfl ?_
              refine jr_iald (len := 2) rfl rfl hw.1 (by omega) ?_
              refine jr_if_le rfl (fun m5MDhasMonths => ?_) (fun m5MDhasMonths => ?_)
              · refine jr_ic rfl ?_
                refine jr_zret rfl rfl rfl (Nat.zero_le _) (Nat.zero_le _) ?_
                refine jr_if_eq rfl (fun _ => ?_) (fun z => absurd (by decide) z)
                refine jr_ic rfl ?_
                refine jr_iret rfl rfl (Nat.zero_le _) (Nat.zero_le _) ?_
                first
                  | exact ⟨rfl, hRel0⟩
                  | (exfalso; omega)
                  | (exfalso; simp (disch := omega) only [Int32.lt_iff_toInt_lt, Int32.le_iff_toInt_le, ← Int32.toInt_inj, Int32.reduceToInt, nI_toInt] at c3 c2LedcanAsk c5LedcanAsk m2MDisIn m5MDisIn m5MDhasMonths; done)
                  | (exfalso; simp (disch := omega) only [Int32.lt_iff_toInt_lt, Int32.le_iff_toInt_le, ← Int32.toInt_inj, Int32.reduceToInt, nI_toInt] at c3 c2LedcanAsk c5LedcanAsk m2MDisIn m5MDisIn m5MDhasMonths; omega)
              · refine jr_ic rfl ?_
                refine jr_goto rfl ?_
                refine jr_zret rfl rfl rfl (Nat.zero_le _) (Nat.zero_le _) ?_
                refine jr_if_eq rfl (fun z => absurd z (by decide)) (fun _ => ?_)
                refine jr_aload rfl rfl ?_
                refine jr_iload rfl rfl ?_
                refine jr_iload rfl rfl ?_
                refine jr_cv2 (mc' := 0) (ms' := 0) rfl jm_MD_countRows_n jm_MD_countRows_f rfl rfl rfl rfl rfl rfl rfl (Nat.zero_le _) (Nat.zero_le _) ?_
                refine eM_rowsV (kk := y) hw hn0n hi e1 e3 e4 (fun S5 v5 hS5 hv5 => ?_)
                refine jr_goto rfl ?_
                refine jr_iret rfl rfl (Nat.zero_le _) (Nat.zero_le _) ?_
                first
                  | exact ⟨rfl, hRel0⟩
                  | (exfalso; omega)
                  | (exfalso; simp (disch := omega) only [Int32.lt_iff_toInt_lt, Int32.le_iff_toInt_le, ← Int32.toInt_inj, Int32.reduceToInt, nI_toInt] at c3 c2LedcanAsk c5LedcanAsk m2MDisIn m5MDisIn m5MDhasMonths; done)
                  | (exfalso; simp (disch := omega) only [Int32.lt_iff_toInt_lt, Int32.le_iff_toInt_le, ← Int32.toInt_inj, Int32.reduceToInt, nI_toInt] at c3 c2LedcanAsk c5LedcanAsk m2MDisIn m5MDisIn m5MDhasMonths; omega)
        · refine jr_ic rfl ?_
          refine jr_goto rfl ?_
          refine jr_zret rfl rfl rfl (Nat.zero_le _) (Nat.zero_le _) ?_
          refine jr_if_ne rfl (fun _ => ?_) (fun z => absurd z (by decide))
          refine jr_aload rfl rfl ?_
          refine jr_getR rfl rfl rfl rfl (Or.inl rfl) ?_
          refine jr_aload rfl rfl ?_
          refine jr_getM rfl rfl rfl rfl hto ?_
          refine jr_iload rfl rfl ?_
          refine jr_iload rfl rfl ?_
          refine jr_cv3 (mc' := 0) (ms' := 0) rfl jm_Led_rows_n jm_Led_rows_f rfl rfl rfl rfl rfl rfl rfl (Nat.zero_le _) (Nat.zero_le _) ?_
          refine ev_rowsV (kk := y) hw hR hn0n hi1 hi e1 e2 e4 (fun S1 v f1 hv => ?_)
          refine jr_iret rfl rfl (Nat.zero_le _) (Nat.zero_le _) ?_
          show jx_W (jm_MD_lengths, d + 40, 0, 0, false, 1, _) _ 0 0 0 [some _, some _, some _] [] _
          refine jr_iload rfl rfl ?_
          refine jr_ic rfl ?_
          refine jr_ic rfl ?_
          refine jr_cs3 (mc' := 0) (ms' := 0) rfl jm_MD_isIn_n jm_MD_isIn_f rfl rfl rfl rfl rfl (Nat.zero_le _) (Nat.zero_le _) ?_
          show jx_W (jm_MD_isIn, _, _, _, _, _, _) _ 0 0 0 [some _, some _, some _] [] _
          refine jr_iload rfl rfl ?_
          refine jr_iload rfl rfl ?_
          refine jr_icmp_lt rfl (fun m2MDisIn => ?_) (fun m2MDisIn => ?_)
          · refine jr_ic rfl ?_
            refine jr_zret rfl rfl rfl (Nat.zero_le _) (Nat.zero_le _) ?_
            refine jr_if_eq rfl (fun _ => ?_) (fun z => absurd (by decide) z)
            refine jr_ic rfl ?_
            refine jr_iret rfl rfl (Nat.zero_le _) (Nat.zero_le _) ?_
            first
              | exact ⟨rfl, hRel0⟩
              | (exfalso; omega)
              | (exfalso; simp (disch := omega) only [Int32.lt_iff_toInt_lt, Int32.le_iff_toInt_le, ← Int32.toInt_inj, Int32.reduceToInt, nI_toInt] at c3 c2LedcanAsk c5LedcanAsk m2MDisIn; done)
              | (exfalso; simp (disch := omega) only [Int32.lt_iff_toInt_lt, Int32.le_iff_toInt_le, ← Int32.toInt_inj, Int32.reduceToInt, nI_toInt] at c3 c2LedcanAsk c5LedcanAsk m2MDisIn; omega)
          · refine jr_iload rfl rfl ?_
            refine jr_iload rfl rfl ?_
            refine jr_icmp_gt rfl (fun m5MDisIn => ?_) (fun m5MDisIn => ?_)
            · refine jr_ic rfl ?_
              refine jr_zret rfl rfl rfl (Nat.zero_le _) (Nat.zero_le _) ?_
              refine jr_if_eq rfl (fun _ => ?_) (fun z => absurd (by decide) z)
              refine jr_ic rfl ?_
              refine jr_iret rfl rfl (Nat.zero_le _) (Nat.zero_le _) ?_
              first
                | exact ⟨rfl, hRel0⟩
                | (exfalso; omega)
                | (exfalso; simp (disch := omega) only [Int32.lt_iff_toInt_lt, Int32.le_iff_toInt_le, ← Int32.toInt_inj, Int32.reduceToInt, nI_toInt] at c3 c2LedcanAsk c5LedcanAsk m2MDisIn m5MDisIn; done)
                | (exfalso; simp (disch := omega) only [Int32.lt_iff_toInt_lt, Int32.le_iff_toInt_le, ← Int32.toInt_inj, Int32.reduceToInt, nI_toInt] at c3 c2LedcanAsk c5LedcanAsk m2MDisIn m5MDisIn; omega)
            · refine jr_ic rfl ?_
              refine jr_goto rfl ?_
              refine jr_zret rfl rfl rfl (Nat.zero_le _) (Nat.zero_le _) ?_
              refine jr_if_eq rfl (fun z => absurd z (by decide)) (fun _ => ?_)
              refine jr_aload rfl rfl ?_
              refine jr_cv0 (mc' := 0) (ms' := 0) rfl jm_MD_hasMonths_n jm_MD_hasMonths_f rfl rfl rfl rfl rfl rfl rfl (Nat.zero_le _) (Nat.zero_le _) ?_
              show jx_W (jm_MD_hasMonths, _, _, _, _, _, _) _ 0 0 0 [some _] [] _
              refine jr_aload rfl rfl ?_
              refine jr_getR rfl rfl rfl rfl (Or.inl rfl) ?_
              refine jr_aload rfl rfl ?_
              refine jr_getI rfl rfl ?_
              refine jr_iald (len := 2) rfl rfl hw.1 (by omega) ?_
              refine jr_if_le rfl (fun m5MDhasMonths => ?_) (fun m5MDhasMonths => ?_)
              · refine jr_ic rfl ?_
                refine jr_zret rfl rfl rfl (Nat.zero_le _) (Nat.zero_le _) ?_
                refine jr_if_eq rfl (fun _ => ?_) (fun z => absurd (by decide) z)
                refine jr_ic rfl ?_
                refine jr_iret rfl rfl (Nat.zero_le _) (Nat.zero_le _) ?_
                first
                  | exact ⟨rfl, hRel0⟩
                  | (exfalso; omega)
                  | (exfalso; simp (disch := omega) only [Int32.lt_iff_toInt_lt, Int32.le_iff_toInt_le, ← Int32.toInt_inj, Int32.reduceToInt, nI_toInt] at c3 c2LedcanAsk c5LedcanAsk m2MDisIn m5MDisIn m5MDhasMonths; done)
                  | (exfalso; simp (disch := omega) only [Int32.lt_iff_toInt_lt, Int32.le_iff_toInt_le, ← Int32.toInt_inj, Int32.reduceToInt, nI_toInt] at c3 c2LedcanAsk c5LedcanAsk m2MDisIn m5MDisIn m5MDhasMonths; omega)
              · refine jr_ic rfl ?_
                refine jr_goto rfl ?_
                refine jr_zret rfl rfl rfl (Nat.zero_le _) (Nat.zero_le _) ?_
                refine jr_if_eq rfl (fun z => absurd z (by decide)) (fun _ => ?_)
                refine jr_aload rfl rfl ?_
                refine jr_iload rfl rfl ?_
                refine jr_iload rfl rfl ?_
                refine jr_cv2 (mc' := 0) (ms' := 0) rfl jm_MD_countRows_n jm_MD_countRows_f rfl rfl rfl rfl rfl rfl rfl (Nat.zero_le _) (Nat.zero_le _) ?_
                refine eM_rowsV (kk := y) hw hn0n hi e1 e3 e4 (fun S5 v5 hS5 hv5 => ?_)
                refine jr_goto rfl ?_
                refine jr_iret rfl rfl (Nat.zero_le _) (Nat.zero_le _) ?_
                exact ⟨congrArg (fun z => some (jv_i z)) (jl_vv hv hv5), (jz_Rel_L (jz_Rel_m hRel0 hS5) f1)⟩
  · have hn1 : 0 < jz_nm hm b := by
      rcases Nat.eq_zero_or_pos (jz_nm hm b) with e | e
      · rw [e] at hnm; exact absurd hnm.1 hmo
      · exact e
    show jx_W (jm_JV_lengths, d + 40, 0, 0, false, 0, _) _ 0 0 0 [some (jv_r 10 0), some (jv_i x), some (jv_i y)] [] _
    refine jr_aload rfl rfl ?_
    refine jr_getM rfl rfl rfl rfl hto ?_
    refine jr_getI rfl rfl ?_
    refine jr_if_eq rfl (fun c3 => ?_) (fun c3 => ?_)
    · refine jr_ic rfl ?_
      refine jr_iret rfl rfl (Nat.zero_le _) (Nat.zero_le _) ?_
      show jx_W (jm_MD_lengths, d + 40, 0, 0, false, 1, _) _ 0 0 0 [some _, some _, some _] [] _
      refine jr_iload rfl rfl ?_
      refine jr_ic rfl ?_
      refine jr_ic rfl ?_
      refine jr_cs3 (mc' := 0) (ms' := 0) rfl jm_MD_isIn_n jm_MD_isIn_f rfl rfl rfl rfl rfl (Nat.zero_le _) (Nat.zero_le _) ?_
      show jx_W (jm_MD_isIn, _, _, _, _, _, _) _ 0 0 0 [some _, some _, some _] [] _
      refine jr_iload rfl rfl ?_
      refine jr_iload rfl rfl ?_
      refine jr_icmp_lt rfl (fun m2MDisIn => ?_) (fun m2MDisIn => ?_)
      · refine jr_ic rfl ?_
        refine jr_zret rfl rfl rfl (Nat.zero_le _) (Nat.zero_le _) ?_
        refine jr_if_eq rfl (fun _ => ?_) (fun z => absurd (by decide) z)
        refine jr_ic rfl ?_
        refine jr_iret rfl rfl (Nat.zero_le _) (Nat.zero_le _) ?_
        first
          | exact ⟨rfl, hRel0⟩
          | (exfalso; omega)
          | (exfalso; simp (disch := omega) only [Int32.lt_iff_toInt_lt, Int32.le_iff_toInt_le, ← Int32.toInt_inj, Int32.reduceToInt, nI_toInt] at c3 m2MDisIn; done)
          | (exfalso; simp (disch := omega) only [Int32.lt_iff_toInt_lt, Int32.le_iff_toInt_le, ← Int32.toInt_inj, Int32.reduceToInt, nI_toInt] at c3 m2MDisIn; omega)
      · refine jr_iload rfl rfl ?_
        refine jr_iload rfl rfl ?_
        refine jr_icmp_gt rfl (fun m5MDisIn => ?_) (fun m5MDisIn => ?_)
        · refine jr_ic rfl ?_
          refine jr_zret rfl rfl rfl (Nat.zero_le _) (Nat.zero_le _) ?_
          refine jr_if_eq rfl (fun _ => ?_) (fun z => absurd (by decide) z)
          refine jr_ic rfl ?_
          refine jr_iret rfl rfl (Nat.zero_le _) (Nat.zero_le _) ?_
          first
            | exact ⟨rfl, hRel0⟩
            | (exfalso; omega)
            | (exfalso; simp (disch := omega) only [Int32.lt_iff_toInt_lt, Int32.le_iff_toInt_le, ← Int32.toInt_inj, Int32.reduceToInt, nI_toInt] at c3 m2MDisIn m5MDisIn; done)
            | (exfalso; simp (disch := omega) only [Int32.lt_iff_toInt_lt, Int32.le_iff_toInt_le, ← Int32.toInt_inj, Int32.reduceToInt, nI_toInt] at c3 m2MDisIn m5MDisIn; omega)
        · refine jr_ic rfl ?_
          refine jr_goto rfl ?_
          refine jr_zret rfl rfl rfl (Nat.zero_le _) (Nat.zero_le _) ?_
          refine jr_if_eq rfl (fun z => absurd z (by decide)) (fun _ => ?_)
          refine jr_aload rfl rfl ?_
          refine jr_cv0 (mc' := 0) (ms' := 0) rfl jm_MD_hasMonths_n jm_MD_hasMonths_f rfl rfl rfl rfl rfl rfl rfl (Nat.zero_le _) (Nat.zero_le _) ?_
          show jx_W (jm_MD_hasMonths, _, _, _, _, _, _) _ 0 0 0 [some _] [] _
          refine jr_aload rfl rfl ?_
          refine jr_getR rfl rfl rfl rfl (Or.inl rfl) ?_
          refine jr_aload rfl rfl ?_
          refine jr_getI rfl rfl ?_
          refine jr_iald (len := 2) rfl rfl hw.1 (by omega) ?_
          refine jr_if_le rfl (fun m5MDhasMonths => ?_) (fun m5MDhasMonths => ?_)
          · refine jr_ic rfl ?_
            refine jr_zret rfl rfl rfl (Nat.zero_le _) (Nat.zero_le _) ?_
            refine jr_if_eq rfl (fun _ => ?_) (fun z => absurd (by decide) z)
            refine jr_ic rfl ?_
            refine jr_iret rfl rfl (Nat.zero_le _) (Nat.zero_le _) ?_
            first
              | exact ⟨rfl, hRel0⟩
              | (exfalso; omega)
              | (exfalso; simp (disch := omega) only [Int32.lt_iff_toInt_lt, Int32.le_iff_toInt_le, ← Int32.toInt_inj, Int32.reduceToInt, nI_toInt] at c3 m2MDisIn m5MDisIn m5MDhasMonths; done)
              | (exfalso; simp (disch := omega) only [Int32.lt_iff_toInt_lt, Int32.le_iff_toInt_le, ← Int32.toInt_inj, Int32.reduceToInt, nI_toInt] at c3 m2MDisIn m5MDisIn m5MDhasMonths; omega)
          · refine jr_ic rfl ?_
            refine jr_goto rfl ?_
            refine jr_zret rfl rfl rfl (Nat.zero_le _) (Nat.zero_le _) ?_
            refine jr_if_eq rfl (fun z => absurd z (by decide)) (fun _ => ?_)
            refine jr_aload rfl rfl ?_
            refine jr_iload rfl rfl ?_
            refine jr_iload rfl rfl ?_
            refine jr_cv2 (mc' := 0) (ms' := 0) rfl jm_MD_countRows_n jm_MD_countRows_f rfl rfl rfl rfl rfl rfl rfl (Nat.zero_le _) (Nat.zero_le _) ?_
            first
              | (exfalso; omega)
              | (exfalso; simp (disch := omega) only [Int32.lt_iff_toInt_lt, Int32.le_iff_toInt_le, ← Int32.toInt_inj, Int32.reduceToInt, nI_toInt] at c3 m2MDisIn m5MDisIn m5MDhasMonths; done)
              | (exfalso; simp (disch := omega) only [Int32.lt_iff_toInt_lt, Int32.le_iff_toInt_le, ← Int32.toInt_inj, Int32.reduceToInt, nI_toInt] at c3 m2MDisIn m5MDisIn m5MDhasMonths; omega)
    · refine jr_aload rfl rfl ?_
      refine jr_getR rfl rfl rfl rfl (Or.inl rfl) ?_
      refine jr_iload rfl rfl ?_
      refine jr_cv1 (mc' := 0) (ms' := 0) rfl jm_Led_canAsk_n jm_Led_canAsk_f rfl rfl rfl rfl rfl rfl rfl (Nat.zero_le _) (Nat.zero_le _) ?_
      show jx_W (jm_Led_canAsk, _, _, _, _, _, _) _ 0 0 0 [some _, some _] [] _
      refine jr_iload rfl rfl ?_
      refine jr_ic rfl ?_
      refine jr_icmp_lt rfl (fun c2LedcanAsk => ?_) (fun c2LedcanAsk => ?_)
      · refine jr_ic rfl ?_
        refine jr_zret rfl rfl rfl (Nat.zero_le _) (Nat.zero_le _) ?_
        refine jr_if_ne rfl (fun z => absurd (by decide) z) (fun _ => ?_)
        refine jr_ic rfl ?_
        refine jr_iret rfl rfl (Nat.zero_le _) (Nat.zero_le _) ?_
        show jx_W (jm_MD_lengths, d + 40, 0, 0, false, 1, _) _ 0 0 0 [some _, some _, some _] [] _
        refine jr_iload rfl rfl ?_
        refine jr_ic rfl ?_
        refine jr_ic rfl ?_
        refine jr_cs3 (mc' := 0) (ms' := 0) rfl jm_MD_isIn_n jm_MD_isIn_f rfl rfl rfl rfl rfl (Nat.zero_le _) (Nat.zero_le _) ?_
        show jx_W (jm_MD_isIn, _, _, _, _, _, _) _ 0 0 0 [some _, some _, some _] [] _
        refine jr_iload rfl rfl ?_
        refine jr_iload rfl rfl ?_
        refine jr_icmp_lt rfl (fun m2MDisIn => ?_) (fun m2MDisIn => ?_)
        · refine jr_ic rfl ?_
          refine jr_zret rfl rfl rfl (Nat.zero_le _) (Nat.zero_le _) ?_
          refine jr_if_eq rfl (fun _ => ?_) (fun z => absurd (by decide) z)
          refine jr_ic rfl ?_
          refine jr_iret rfl rfl (Nat.zero_le _) (Nat.zero_le _) ?_
          first
            | exact ⟨rfl, hRel0⟩
            | (exfalso; omega)
            | (exfalso; simp (disch := omega) only [Int32.lt_iff_toInt_lt, Int32.le_iff_toInt_le, ← Int32.toInt_inj, Int32.reduceToInt, nI_toInt] at c3 c2LedcanAsk m2MDisIn; done)
            | (exfalso; simp (disch := omega) only [Int32.lt_iff_toInt_lt, Int32.le_iff_toInt_le, ← Int32.toInt_inj, Int32.reduceToInt, nI_toInt] at c3 c2LedcanAsk m2MDisIn; omega)
        · refine jr_iload rfl rfl ?_
          refine jr_iload rfl rfl ?_
          refine jr_icmp_gt rfl (fun m5MDisIn => ?_) (fun m5MDisIn => ?_)
          · refine jr_ic rfl ?_
            refine jr_zret rfl rfl rfl (Nat.zero_le _) (Nat.zero_le _) ?_
            refine jr_if_eq rfl (fun _ => ?_) (fun z => absurd (by decide) z)
            refine jr_ic rfl ?_
            refine jr_iret rfl rfl (Nat.zero_le _) (Nat.zero_le _) ?_
            first
              | exact ⟨rfl, hRel0⟩
              | (exfalso; omega)
              | (exfalso; simp (disch := omega) only [Int32.lt_iff_toInt_lt, Int32.le_iff_toInt_le, ← Int32.toInt_inj, Int32.reduceToInt, nI_toInt] at c3 c2LedcanAsk m2MDisIn m5MDisIn; done)
              | (exfalso; simp (disch := omega) only [Int32.lt_iff_toInt_lt, Int32.le_iff_toInt_le, ← Int32.toInt_inj, Int32.reduceToInt, nI_toInt] at c3 c2LedcanAsk m2MDisIn m5MDisIn; omega)
          · refine jr_ic rfl ?_
            refine jr_goto rfl ?_
            refine jr_zret rfl rfl rfl (Nat.zero_le _) (Nat.zero_le _) ?_
            refine jr_if_eq rfl (fun z => absurd z (by decide)) (fun _ => ?_)
            refine jr_aload rfl rfl ?_
            refine jr_cv0 (mc' := 0) (ms' := 0) rfl jm_MD_hasMonths_n jm_MD_hasMonths_f rfl rfl rfl rfl rfl rfl rfl (Nat.zero_le _) (Nat.zero_le _) ?_
            show jx_W (jm_MD_hasMonths, _, _, _, _, _, _) _ 0 0 0 [some _] [] _
            refine jr_aload rfl rfl ?_
            refine jr_getR rfl rfl rfl rfl (Or.inl rfl) ?_
            refine jr_aload rfl rfl ?_
            refine jr_getI rfl rfl ?_
            refine jr_iald (len := 2) rfl rfl hw.1 (by omega) ?_
            refine jr_if_le rfl (fun m5MDhasMonths => ?_) (fun m5MDhasMonths => ?_)
            · refine jr_ic rfl ?_
              refine jr_zret rfl rfl rfl (Nat.zero_le _) (Nat.zero_le _) ?_
              refine jr_if_eq rfl (fun _ => ?_) (fun z => absurd (by decide) z)
              refine jr_ic rfl ?_
              refine jr_iret rfl rfl (Nat.zero_le _) (Nat.zero_le _) ?_
              first
                | exact ⟨rfl, hRel0⟩
                | (exfalso; omega)
                | (exfalso; simp (disch := omega) only [Int32.lt_iff_toInt_lt, Int32.le_iff_toInt_le, ← Int32.toInt_inj, Int32.reduceToInt, nI_toInt] at c3 c2LedcanAsk m2MDisIn m5MDisIn m5MDhasMonths; done)
                | (exfalso; simp (disch := omega) only [Int32.lt_iff_toInt_lt, Int32.le_iff_toInt_le, ← Int32.toInt_inj, Int32.reduceToInt, nI_toInt] at c3 c2LedcanAsk m2MDisIn m5MDisIn m5MDhasMonths; omega)
            · refine jr_ic rfl ?_
              refine jr_goto rfl ?_
              refine jr_zret rfl rfl rfl (Nat.zero_le _) (Nat.zero_le _) ?_
              refine jr_if_eq rfl (fun z => absurd z (by decide)) (fun _ => ?_)
              refine jr_aload rfl rfl ?_
              refine jr_iload rfl rfl ?_
              refine jr_iload rfl rfl ?_
              refine jr_cv2 (mc' := 0) (ms' := 0) rfl jm_MD_countRows_n jm_MD_countRows_f rfl rfl rfl rfl rfl rfl rfl (Nat.zero_le _) (Nat.zero_le _) ?_
              first
                | (exfalso; omega)
                | (exfalso; simp (disch := omega) only [Int32.lt_iff_toInt_lt, Int32.le_iff_toInt_le, ← Int32.toInt_inj, Int32.reduceToInt, nI_toInt] at c3 c2LedcanAsk m2MDisIn m5MDisIn m5MDhasMonths; done)
                | (exfalso; simp (disch := omega) only [Int32.lt_iff_toInt_lt, Int32.le_iff_toInt_le, ← Int32.toInt_inj, Int32.reduceToInt, nI_toInt] at c3 c2LedcanAsk m2MDisIn m5MDisIn m5MDhasMonths; omega)
      · refine jr_iload rfl rfl ?_
        refine jr_ic rfl ?_
        refine jr_icmp_gt rfl (fun c5LedcanAsk => ?_) (fun c5LedcanAsk => ?_)
        · refine jr_ic rfl ?_
          refine jr_zret rfl rfl rfl (Nat.zero_le _) (Nat.zero_le _) ?_
          refine jr_if_ne rfl (fun z => absurd (by decide) z) (fun _ => ?_)
          refine jr_ic rfl ?_
          refine jr_iret rfl rfl (Nat.zero_le _) (Nat.zero_le _) ?_
          show jx_W (jm_MD_lengths, d + 40, 0, 0, false, 1, _) _ 0 0 0 [some _, some _, some _] [] _
          refine jr_iload rfl rfl ?_
          refine jr_ic rfl ?_
          refine jr_ic rfl ?_
          refine jr_cs3 (mc' := 0) (ms' := 0) rfl jm_MD_isIn_n jm_MD_isIn_f rfl rfl rfl rfl rfl (Nat.zero_le _) (Nat.zero_le _) ?_
          show jx_W (jm_MD_isIn, _, _, _, _, _, _) _ 0 0 0 [some _, some _, some _] [] _
          refine jr_iload rfl rfl ?_
          refine jr_iload rfl rfl ?_
          refine jr_icmp_lt rfl (fun m2MDisIn => ?_) (fun m2MDisIn => ?_)
          · refine jr_ic rfl ?_
            refine jr_zret rfl rfl rfl (Nat.zero_le _) (Nat.zero_le _) ?_
            refine jr_if_eq rfl (fun _ => ?_) (fun z => absurd (by decide) z)
            refine jr_ic rfl ?_
            refine jr_iret rfl rfl (Nat.zero_le _) (Nat.zero_le _) ?_
            first
              | exact ⟨rfl, hRel0⟩
              | (exfalso; omega)
              | (exfalso; simp (disch := omega) only [Int32.lt_iff_toInt_lt, Int32.le_iff_toInt_le, ← Int32.toInt_inj, Int32.reduceToInt, nI_toInt] at c3 c2LedcanAsk c5LedcanAsk m2MDisIn; done)
              | (exfalso; simp (disch := omega) only [Int32.lt_iff_toInt_lt, Int32.le_iff_toInt_le, ← Int32.toInt_inj, Int32.reduceToInt, nI_toInt] at c3 c2LedcanAsk c5LedcanAsk m2MDisIn; omega)
          · refine jr_iload rfl rfl ?_
            refine jr_iload rfl rfl ?_
            refine jr_icmp_gt rfl (fun m5MDisIn => ?_) (fun m5MDisIn => ?_)
            · refine jr_ic rfl ?_
              refine jr_zret rfl rfl rfl (Nat.zero_le _) (Nat.zero_le _) ?_
              refine jr_if_eq rfl (fun _ => ?_) (fun z => absurd (by decide) z)
              refine jr_ic rfl ?_
              refine jr_iret rfl rfl (Nat.zero_le _) (Nat.zero_le _) ?_
              first
                | exact ⟨rfl, hRel0⟩
                | (exfalso; omega)
                | (exfalso; simp (disch := omega) only [Int32.lt_iff_toInt_lt, Int32.le_iff_toInt_le, ← Int32.toInt_inj, Int32.reduceToInt, nI_toInt] at c3 c2LedcanAsk c5LedcanAsk m2MDisIn m5MDisIn; done)
                | (exfalso; simp (disch := omega) only [Int32.lt_iff_toInt_lt, Int32.le_iff_toInt_le, ← Int32.toInt_inj, Int32.reduceToInt, nI_toInt] at c3 c2LedcanAsk c5LedcanAsk m2MDisIn m5MDisIn; omega)
            · refine jr_ic rfl ?_
              refine jr_goto rfl ?_
              refine jr_zret rfl rfl rfl (Nat.zero_le _) (Nat.zero_le _) ?_
              refine jr_if_eq rfl (fun z => absurd z (by decide)) (fun _ => ?_)
              refine jr_aload rfl rfl ?_
              refine jr_cv0 (mc' := 0) (ms' := 0) rfl jm_MD_hasMonths_n jm_MD_hasMonths_f rfl rfl rfl rfl rfl rfl rfl (Nat.zero_le _) (Nat.zero_le _) ?_
              show jx_W (jm_MD_hasMonths, _, _, _, _, _, _) _ 0 0 0 [some _] [] _
              refine jr_aload rfl rfl ?_
              refine jr_getR rfl rfl rfl rfl (Or.inl rfl) ?_
              refine jr_aload rfl rfl ?_
              refine jr_getI rfl rfl ?_
              refine jr_iald (len := 2) rfl rfl hw.1 (by omega) ?_
              refine jr_if_le rfl (fun m5MDhasMonths => ?_) (fun m5MDhasMonths => ?_)
              · refine jr_ic rfl ?_
                refine jr_zret rfl rfl rfl (Nat.zero_le _) (Nat.zero_le _) ?_
                refine jr_if_eq rfl (fun _ => ?_) (fun z => absurd (by decide) z)
                refine jr_ic rfl ?_
                refine jr_iret rfl rfl (Nat.zero_le _) (Nat.zero_le _) ?_
                first
                  | exact ⟨rfl, hRel0⟩
                  | (exfalso; omega)
                  | (exfalso; simp (disch := omega) only [Int32.lt_iff_toInt_lt, Int32.le_iff_toInt_le, ← Int32.toInt_inj, Int32.reduceToInt, nI_toInt] at c3 c2LedcanAsk c5LedcanAsk m2MDisIn m5MDisIn m5MDhasMonths; done)
                  | (exfalso; simp (disch := omega) only [Int32.lt_iff_toInt_lt, Int32.le_iff_toInt_le, ← Int32.toInt_inj, Int32.reduceToInt, nI_toInt] at c3 c2LedcanAsk c5LedcanAsk m2MDisIn m5MDisIn m5MDhasMonths; omega)
              · refine jr_ic rfl ?_
                refine jr_goto rfl ?_
                refine jr_zret rfl rfl rfl (Nat.zero_le _) (Nat.zero_le _) ?_
                refine jr_if_eq rfl (fun z => absurd z (by decide)) (fun _ => ?_)
                refine jr_aload rfl rfl ?_
                refine jr_iload rfl rfl ?_
                refine jr_iload rfl rfl ?_
                refine jr_cv2 (mc' := 0) (ms' := 0) rfl jm_MD_countRows_n jm_MD_countRows_f rfl rfl rfl rfl rfl rfl rfl (Nat.zero_le _) (Nat.zero_le _) ?_
                first
                  | (exfalso; omega)
                  | (exfalso; simp (disch := omega) only [Int32.lt_iff_toInt_lt, Int32.le_iff_toInt_le, ← Int32.toInt_inj, Int32.reduceToInt, nI_toInt] at c3 c2LedcanAsk c5LedcanAsk m2MDisIn m5MDisIn m5MDhasMonths; done)
                  | (exfalso; simp (disch := omega) only [Int32.lt_iff_toInt_lt, Int32.le_iff_toInt_le, ← Int32.toInt_inj, Int32.reduceToInt, nI_toInt] at c3 c2LedcanAsk c5LedcanAsk m2MDisIn m5MDisIn m5MDhasMonths; omega)
        · refine jr_ic rfl ?_
          refine jr_goto rfl ?_
          refine jr_zret rfl rfl rfl (Nat.zero_le _) (Nat.zero_le _) ?_
          refine jr_if_ne rfl (fun _ => ?_) (fun z => absurd z (by decide))
          refine jr_aload rfl rfl ?_
          refine jr_getR rfl rfl rfl rfl (Or.inl rfl) ?_
          refine jr_aload rfl rfl ?_
          refine jr_getM rfl rfl rfl rfl hto ?_
          refine jr_iload rfl rfl ?_
          refine jr_iload rfl rfl ?_
          refine jr_cv3 (mc' := 0) (ms' := 0) rfl jm_Led_rows_n jm_Led_rows_f rfl rfl rfl rfl rfl rfl rfl (Nat.zero_le _) (Nat.zero_le _) ?_
          first
            | (exfalso; omega)
            | (exfalso; simp (disch := omega) only [Int32.lt_iff_toInt_lt, Int32.le_iff_toInt_le, ← Int32.toInt_inj, Int32.reduceToInt, nI_toInt] at c3 c2LedcanAsk c5LedcanAsk; done)
            | (exfalso; simp (disch := omega) only [Int32.lt_iff_toInt_lt, Int32.le_iff_toInt_le, ← Int32.toInt_inj, Int32.reduceToInt, nI_toInt] at c3 c2LedcanAsk c5LedcanAsk; omega)

set_option maxHeartbeats 800000 in
set_option maxRecDepth 100000 in
theorem pd_known {d : Nat} {hc hm : jx_H} {x y z w : Int32} (hRel : jz_Rel hc hm) : jx_Ev jm_JV_known (d + 40) 0 0 false 0 [jv_r 10 0, jv_i x, jv_i y, jv_i z, jv_i w] hc (fun r hc' => jx_Ev jm_MD_known (d + 40) 0 0 false 1 [jv_r 11 0, jv_i x, jv_i y, jv_i z, jv_i w] hm (fun r' hm' => r = r' ∧ jz_Rel hc' hm')) := by
  have hRel0 := hRel
  obtain ⟨b, r, ⟨hw, hG, hr2, hto, hsp, hR, hA, hL⟩, hTa, hFa, hLy, hTi, hLe, hBo, hAc, hWo⟩ := hRel
  have hb2 := hw.2.1
  have hnm := hw.2.2.1.1
  have hnm5 := hnm.2
  have km1 : (jh_I hc 7 r 0).toInt = (jz_nm hm b : Int) := by rw [hR.1]; exact (congrArg Int32.toInt hnm.1).trans (nI_toInt (by omega))
  have km2 : (jh_I hm 66 0 b).toInt = (jz_nm hm b : Int) := (congrArg Int32.toInt hnm.1).trans (nI_toInt (by omega))
  have km3 : (jh_I hm 66 0 b - 1).toInt = (jz_nm hm b : Int) - 1 := by rw [Int32.toInt_sub, km2, show (1 : Int32).toInt = 1 from rfl]; exact jn_sm (by omega) (by omega)
  obtain ⟨n, e1, e2, e3, e4⟩ := hLe
  rcases jz_3 (A := jC hm b 0 0 = 0) x 1 5 (by decide) with hmo | ⟨hmo, i, rfl, hi1, hi, hi2⟩ | ⟨hmo, hi⟩
  · have hn0 : (jz_nm hm b : Int) = 0 := by rw [← km2]; exact congrArg Int32.toInt hmo
    show jx_W (jm_JV_known, d + 40, 0, 0, false, 0, _) _ 0 0 0 [some (jv_r 10 0), some (jv_i x), some (jv_i y), some (jv_i z), some (jv_i w), none] [] _
    refine jr_aload rfl rfl ?_
    refine jr_getM rfl rfl rfl rfl hto ?_
    refine jr_getI rfl rfl ?_
    refine jr_if_eq rfl (fun c3 => ?_) (fun c3 => ?_)
    · refine jr_ic rfl ?_
      refine jr_iret rfl rfl (Nat.zero_le _) (Nat.zero_le _) ?_
      show jx_W (jm_MD_known, d + 40, 0, 0, false, 1, _) _ 0 0 0 [some _, some _, some _, some _, some _, none] [] _
      refine jr_iload rfl rfl ?_
      refine jr_ic rfl ?_
      refine jr_ic rfl ?_
      refine jr_cs3 (mc' := 0) (ms' := 0) rfl jm_MD_isIn_n jm_MD_isIn_f rfl rfl rfl rfl rfl (Nat.zero_le _) (Nat.zero_le _) ?_
      show jx_W (jm_MD_isIn, _, _, _, _, _, _) _ 0 0 0 [some _, some _, some _] [] _
      refine jr_iload rfl rfl ?_
      refine jr_iload rfl rfl ?_
      refine jr_icmp_lt rfl (fun m2MDisIn => ?_) (fun m2MDisIn => ?_)
      · refine jr_ic rfl ?_
        refine jr_zret rfl rfl rfl (Nat.zero_le _) (Nat.zero_le _) ?_
        refine jr_if_eq rfl (fun _ => ?_) (fun z => absurd (by decide) z)
        refine jr_ic rfl ?_
        refine jr_iret rfl rfl (Nat.zero_le _) (Nat.zero_le _) ?_
        first
          | exact ⟨rfl, hRel0⟩
          | (exfalso; omega)
          | (exfalso; simp (disch := omega) only [Int32.lt_iff_toInt_lt, Int32.le_iff_toInt_le, ← Int32.toInt_inj, Int32.reduceToInt, nI_toInt] at c3 m2MDisIn; done)
          | (exfalso; simp (disch := omega) only [Int32.lt_iff_toInt_lt, Int32.le_iff_toInt_le, ← Int32.toInt_inj, Int32.reduceToInt, nI_toInt] at c3 m2MDisIn; omega)
      · refine jr_iload rfl rfl ?_
        refine jr_iload rfl rfl ?_
        refine jr_icmp_gt rfl (fun m5MDisIn => ?_) (fun m5MDisIn => ?_)
        · refine jr_ic rfl ?_
          refine jr_zret rfl rfl rfl (Nat.zero_le _) (Nat.zero_le _) ?_
          refine jr_if_eq rfl (fun _ => ?_) (fun z => absurd (by decide) z)
          refine jr_ic rfl ?_
          refine jr_iret rfl rfl (Nat.zero_le _) (Nat.zero_le _) ?_
          first
            | exact ⟨rfl, hRel0⟩
            | (exfalso; omega)
            | (exfalso; simp (disch := omega) only [Int32.lt_iff_toInt_lt, Int32.le_iff_toInt_le, ← Int32.toInt_inj, Int32.reduceToInt, nI_toInt] at c3 m2MDisIn m5MDisIn; done)
            | (exfalso; simp (disch := omega) only [Int32.lt_iff_toInt_lt, Int32.le_iff_toInt_le, ← Int32.toInt_inj, Int32.reduceToInt, nI_toInt] at c3 m2MDisIn m5MDisIn; omega)
        · refine jr_ic rfl ?_
          refine jr_goto rfl ?_
          refine jr_zret rfl rfl rfl (Nat.zero_le _) (Nat.zero_le _) ?_
          refine jr_if_eq rfl (fun z => absurd z (by decide)) (fun _ => ?_)
          refine jr_iload rfl rfl ?_
          refine jr_ic rfl ?_
          refine jr_iload rfl rfl ?_
          refine jr_ic rfl ?_
          refine jr_isub rfl ?_
          refine jr_cs3 (mc' := 0) (ms' := 0) rfl jm_MD_isIn_n jm_MD_isIn_f rfl rfl rfl rfl rfl (Nat.zero_le _) (Nat.zero_le _) ?_
          show jx_W (jm_MD_isIn, _, _, _, _, _, _) _ 0 0 0 [some _, some _, some _] [] _
          refine jr_iload rfl rfl ?_
          refine jr_iload rfl rfl ?_
          refine jr_icmp_lt rfl (fun m2MDisIn_2 => ?_) (fun m2MDisIn_2 => ?_)
          · refine jr_ic rfl ?_
            refine jr_zret rfl rfl rfl (Nat.zero_le _) (Nat.zero_le _) ?_
            refine jr_if_eq rfl (fun _ => ?_) (fun z => absurd (by decide) z)
            refine jr_ic rfl ?_
            refine jr_iret rfl rfl (Nat.zero_le _) (Nat.zero_le _) ?_
            first
              | exact ⟨rfl, hRel0⟩
              | (exfalso; omega)
              | (exfalso; simp (disch := omega) only [Int32.lt_iff_toInt_lt, Int32.le_iff_toInt_le, ← Int32.toInt_inj, Int32.reduceToInt, nI_toInt] at c3 m2MDisIn m5MDisIn m2MDisIn_2; done)
              | (exfalso; simp (disch := omega) only [Int32.lt_iff_toInt_lt, Int32.le_iff_toInt_le, ← Int32.toInt_inj, Int32.reduceToInt, nI_toInt] at c3 m2MDisIn m5MDisIn m2MDisIn_2; omega)
          · refine jr_iload rfl rfl ?_
            refine jr_iload rfl rfl ?_
            refine jr_icmp_gt rfl (fun m5MDisIn_2 => ?_) (fun m5MDisIn_2 => ?_)
            · refine jr_ic rfl ?_
              refine jr_zret rfl rfl rfl (Nat.zero_le _) (Nat.zero_le _) ?_
              refine jr_if_eq rfl (fun _ => ?_) (fun z => absurd (by decide) z)
              refine jr_ic rfl ?_
              refine jr_iret rfl rfl (Nat.zero_le _) (Nat.zero_le _) ?_
              first
                | exact ⟨rfl, hRel0⟩
                | (exfalso; omega)
                | (exfalso; simp (disch := omega) only [Int32.lt_iff_toInt_lt, Int32.le_iff_toInt_le, ← Int32.toInt_inj, Int32.reduceToInt, nI_toInt] at c3 m2MDisIn m5MDisIn m2MDisIn_2 m5MDisIn_2; done)
                | (exfalso; simp (disch := omega) only [Int32.lt_iff_toInt_lt, Int32.le_iff_toInt_le, ← Int32.toInt_inj, Int32.reduceToInt, nI_toInt] at c3 m2MDisIn m5MDisIn m2MDisIn_2 m5MDisIn_2; omega)
            · refine jr_ic rfl ?_
              refine jr_goto rfl ?_
              refine jr_zret rfl rfl rfl (Nat.zero_le _) (Nat.zero_le _) ?_
              refine jr_if_eq rfl (fun z => absurd z (by decide)) (fun _ => ?_)
              refine jr_aload rfl rfl ?_
              refine jr_cv0 (mc' := 0) (ms' := 0) rfl jm_MD_hasMonths_n jm_MD_hasMonths_f rfl rfl rfl rfl rfl rfl rfl (Nat.zero_le _) (Nat.zero_le _) ?_
              show jx_W (jm_MD_hasMonths, _, _, _, _, _, _) _ 0 0 0 [some _] [] _
              refine jr_aload rfl rfl ?_
              refine jr_getR rfl rfl rfl rfl (Or.inl rfl) ?_
              refine jr_aload rfl rfl ?_
              refine jr_getI rfl rfl ?_
              refine jr_iald (len := 2) rfl rfl hw.1 (by omega) ?_
              refine jr_if_le rfl (fun m5MDhasMonths => ?_) (fun m5MDhasMonths => ?_)
              · refine jr_ic rfl ?_
                refine jr_zret rfl rfl rfl (Nat.zero_le _) (Nat.zero_le _) ?_
                refine jr_if_ne rfl (fun z => absurd (by decide) z) (fun _ => ?_)
                refine jr_ic rfl ?_
                refine jr_iret rfl rfl (Nat.zero_le _) (Nat.zero_le _) ?_
                first
                  | exact ⟨rfl, hRel0⟩
                  | (exfalso; omega)
                  | (exfalso; simp (disch := omega) only [Int32.lt_iff_toInt_lt, Int32.le_iff_toInt_le, ← Int32.toInt_inj, Int32.reduceToInt, nI_toInt] at c3 m2MDisIn m5MDisIn m2MDisIn_2 m5MDisIn_2 m5MDhasMonths; done)
                  | (exfalso; simp (disch := omega) only [Int32.lt_iff_toInt_lt, Int32.le_iff_toInt_le, ← Int32.toInt_inj, Int32.reduceToInt, nI_toInt] at c3 m2MDisIn m5MDisIn m2MDisIn_2 m5MDisIn_2 m5MDhasMonths; omega)
              · refine jr_ic rfl ?_
                refine jr_goto rfl ?_
                refine jr_zret rfl rfl rfl (Nat.zero_le _) (Nat.zero_le _) ?_
                refine jr_if_ne rfl (fun _ => ?_) (fun z => absurd z (by decide))
                refine jr_aload rfl rfl ?_
                refine jr_iload rfl rfl ?_
                refine jr_iload rfl rfl ?_
                refine jr_cv2 (mc' := 0) (ms' := 0) rfl jm_MD_countRows_n jm_MD_countRows_f rfl rfl rfl rfl rfl rfl rfl (Nat.zero_le _) (Nat.zero_le _) ?_
                first
                  | (exfalso; omega)
                  | (exfalso; simp (disch := omega) only [Int32.lt_iff_toInt_lt, Int32.le_iff_toInt_le, ← Int32.toInt_inj, Int32.reduceToInt, nI_toInt] at c3 m2MDisIn m5MDisIn m2MDisIn_2 m5MDisIn_2 m5MDhasMonths; done)
                  | (exfalso; simp (disch := omega) only [Int32.lt_iff_toInt_lt, Int32.le_iff_toInt_le, ← Int32.toInt_inj, Int32.reduceToInt, nI_toInt] at c3 m2MDisIn m5MDisIn m2MDisIn_2 m5MDisIn_2 m5MDhasMonths; omega)
    · refine jr_aload rfl rfl ?_
      refine jr_getR rfl rfl rfl rfl (Or.inl rfl) ?_
      refine jr_iload rfl rfl ?_
      refine jr_cv1 (mc' := 0) (ms' := 0) rfl jm_Led_canAsk_n jm_Led_canAsk_f rfl rfl rfl rfl rfl rfl rfl (Nat.zero_le _) (Nat.zero_le _) ?_
      show jx_W (jm_Led_canAsk, _, _, _, _, _, _) _ 0 0 0 [some _, some _] [] _
      refine jr_iload rfl rfl ?_
      refine jr_ic rfl ?_
      refine jr_icmp_lt rfl (fun c2LedcanAsk => ?_) (fun c2LedcanAsk => ?_)
      · refine jr_ic rfl ?_
        refine jr_zret rfl rfl rfl (Nat.zero_le _) (Nat.zero_le _) ?_
        refine jr_if_eq rfl (fun _ => ?_) (fun z => absurd (by decide) z)
        refine jr_ic rfl ?_
        refine jr_iret rfl rfl (Nat.zero_le _) (Nat.zero_le _) ?_
        show jx_W (jm_MD_known, d + 40, 0, 0, false, 1, _) _ 0 0 0 [some _, some _, some _, some _, some _, none] [] _
        refine jr_iload rfl rfl ?_
        refine jr_ic rfl ?_
        refine jr_ic rfl ?_
        refine jr_cs3 (mc' := 0) (ms' := 0) rfl jm_MD_isIn_n jm_MD_isIn_f rfl rfl rfl rfl rfl (Nat.zero_le _) (Nat.zero_le _) ?_
        show jx_W (jm_MD_isIn, _, _, _, _, _, _) _ 0 0 0 [some _, some _, some _] [] _
        refine jr_iload rfl rfl ?_
        refine jr_iload rfl rfl ?_
        refine jr_icmp_lt rfl (fun m2MDisIn => ?_) (fun m2MDisIn => ?_)
        · refine jr_ic rfl ?_
          refine jr_zret rfl rfl rfl (Nat.zero_le _) (Nat.zero_le _) ?_
          refine jr_if_eq rfl (fun _ => ?_) (fun z => absurd (by decide) z)
          refine jr_ic rfl ?_
          refine jr_iret rfl rfl (Nat.zero_le _) (Nat.zero_le _) ?_
          first
            | exact ⟨rfl, hRel0⟩
            | (exfalso; omega)
            | (exfalso; simp (disch := omega) only [Int32.lt_iff_toInt_lt, Int32.le_iff_toInt_le, ← Int32.toInt_inj, Int32.reduceToInt, nI_toInt] at c3 c2LedcanAsk m2MDisIn; done)
            | (exfalso; simp (disch := omega) only [Int32.lt_iff_toInt_lt, Int32.le_iff_toInt_le, ← Int32.toInt_inj, Int32.reduceToInt, nI_toInt] at c3 c2LedcanAsk m2MDisIn; omega)
        · refine jr_iload rfl rfl ?_
          refine jr_iload rfl rfl ?_
          refine jr_icmp_gt rfl (fun m5MDisIn => ?_) (fun m5MDisIn => ?_)
          · refine jr_ic rfl ?_
            refine jr_zret rfl rfl rfl (Nat.zero_le _) (Nat.zero_le _) ?_
            refine jr_if_eq rfl (fun _ => ?_) (fun z => absurd (by decide) z)
            refine jr_ic rfl ?_
            refine jr_iret rfl rfl (Nat.zero_le _) (Nat.zero_le _) ?_
            first
              | exact ⟨rfl, hRel0⟩
              | (exfalso; omega)
              | (exfalso; simp (disch := omega) only [Int32.lt_iff_toInt_lt, Int32.le_iff_toInt_le, ← Int32.toInt_inj, Int32.reduceToInt, nI_toInt] at c3 c2LedcanAsk m2MDisIn m5MDisIn; done)
              | (exfalso; simp (disch := omega) only [Int32.lt_iff_toInt_lt, Int32.le_iff_toInt_le, ← Int32.toInt_inj, Int32.reduceToInt, nI_toInt] at c3 c2LedcanAsk m2MDisIn m5MDisIn; omega)
          · refine jr_ic rfl ?_
            refine jr_goto rfl ?_
            refine jr_zret rfl rfl rfl (Nat.zero_le _) (Nat.zero_le _) ?_
            refine jr_if_eq rfl (fun z => absurd z (by decide)) (fun _ => ?_)
            refine jr_iload rfl rfl ?_
            refine jr_ic rfl ?_
            refine jr_iload rfl rfl ?_
            refine jr_ic rfl ?_
            refine jr_isub rfl ?_
            refine jr_cs3 (mc' := 0) (ms' := 0) rfl jm_MD_isIn_n jm_MD_isIn_f rfl rfl rfl rfl rfl (Nat.zero_le _) (Nat.zero_le _) ?_
            show jx_W (jm_MD_isIn, _, _, _, _, _, _) _ 0 0 0 [some _, some _, some _] [] _
            refine jr_iload rfl rfl ?_
            refine jr_iload rfl rfl ?_
            refine jr_icmp_lt rfl (fun m2MDisIn_2 => ?_) (fun m2MDisIn_2 => ?_)
            · refine jr_ic rfl ?_
              refine jr_zret rfl rfl rfl (Nat.zero_le _) (Nat.zero_le _) ?_
              refine jr_if_eq rfl (fun _ => ?_) (fun z => absurd (by decide) z)
              refine jr_ic rfl ?_
              refine jr_iret rfl rfl (Nat.zero_le _) (Nat.zero_le _) ?_
              first
                | exact ⟨rfl, hRel0⟩
                | (exfalso; omega)
                | (exfalso; simp (disch := omega) only [Int32.lt_iff_toInt_lt, Int32.le_iff_toInt_le, ← Int32.toInt_inj, Int32.reduceToInt, nI_toInt] at c3 c2LedcanAsk m2MDisIn m5MDisIn m2MDisIn_2; done)
                | (exfalso; simp (disch := omega) only [Int32.lt_iff_toInt_lt, Int32.le_iff_toInt_le, ← Int32.toInt_inj, Int32.reduceToInt, nI_toInt] at c3 c2LedcanAsk m2MDisIn m5MDisIn m2MDisIn_2; omega)
            · refine jr_iload rfl rfl ?_
              refine jr_iload rfl rfl ?_
              refine jr_icmp_gt rfl (fun m5MDisIn_2 => ?_) (fun m5MDisIn_2 => ?_)
              · refine jr_ic rfl ?_
                refine jr_zret rfl rfl rfl (Nat.zero_le _) (Nat.zero_le _) ?_
                refine jr_if_eq rfl (fun _ => ?_) (fun z => absurd (by decide) z)
                refine jr_ic rfl ?_
                refine jr_iret rfl rfl (Nat.zero_le _) (Nat.zero_le _) ?_
                first
                  | exact ⟨rfl, hRel0⟩
                  | (exfalso; omega)
                  | (exfalso; simp (disch := omega) only [Int32.lt_iff_toInt_lt, Int32.le_iff_toInt_le, ← Int32.toInt_inj, Int32.reduceToInt, nI_toInt] at c3 c2LedcanAsk m2MDisIn m5MDisIn m2MDisIn_2 m5MDisIn_2; done)
                  | (exfalso; simp (disch := omega) only [Int32.lt_iff_toInt_lt, Int32.le_iff_toInt_le, ← Int32.toInt_inj, Int32.reduceToInt, nI_toInt] at c3 c2LedcanAsk m2MDisIn m5MDisIn m2MDisIn_2 m5MDisIn_2; omega)
              · refine jr_ic rfl ?_
                refine jr_goto rfl ?_
                refine jr_zret rfl rfl rfl (Nat.zero_le _) (Nat.zero_le _) ?_
                refine jr_if_eq rfl (fun z => absurd z (by decide)) (fun _ => ?_)
                refine jr_aload rfl rfl ?_
                refine jr_cv0 (mc' := 0) (ms' := 0) rfl jm_MD_hasMonths_n jm_MD_hasMonths_f rfl rfl rfl rfl rfl rfl rfl (Nat.zero_le _) (Nat.zero_le _) ?_
                show jx_W (jm_MD_hasMonths, _, _, _, _, _, _) _ 0 0 0 [some _] [] _
                refine jr_aload rfl rfl ?_
                refine jr_getR rfl rfl rfl rfl (Or.inl rfl) ?_
                refine jr_aload rfl rfl ?_
                refine jr_getI rfl rfl ?_
                refine jr_iald (len := 2) rfl rfl hw.1 (by omega) ?_
                refine jr_if_le rfl (fun m5MDhasMonths => ?_) (fun m5MDhasMonths => ?_)
                · refine jr_ic rfl ?_
                  refine jr_zret rfl rfl rfl (Nat.zero_le _) (Nat.zero_le _) ?_
                  refine jr_if_ne rfl (fun z => absurd (by decide) z) (fun _ => ?_)
                  refine jr_ic rfl ?_
                  refine jr_iret rfl rfl (Nat.zero_le _) (Nat.zero_le _) ?_
                  first
                    | exact ⟨rfl, hRel0⟩
                    | (exfalso; omega)
                    | (exfalso; simp (disch := omega) only [Int32.lt_iff_toInt_lt, Int32.le_iff_toInt_le, ← Int32.toInt_inj, Int32.reduceToInt, nI_toInt] at c3 c2LedcanAsk m2MDisIn m5MDisIn m2MDisIn_2 m5MDisIn_2 m5MDhasMonths; done)
                    | (exfalso; simp (disch := omega) only [Int32.lt_iff_toInt_lt, Int32.le_iff_toInt_le, ← Int32.toInt_inj, Int32.reduceToInt, nI_toInt] at c3 c2LedcanAsk m2MDisIn m5MDisIn m2MDisIn_2 m5MDisIn_2 m5MDhasMonths; omega)
                · refine jr_ic rfl ?_
                  refine jr_goto rfl ?_
                  refine jr_zret rfl rfl rfl (Nat.zero_le _) (Nat.zero_le _) ?_
                  refine jr_if_ne rfl (fun _ => ?_) (fun z => absurd z (by decide))
                  refine jr_aload rfl rfl ?_
                  refine jr_iload rfl rfl ?_
                  refine jr_iload rfl rfl ?_
                  refine jr_cv2 (mc' := 0) (ms' := 0) rfl jm_MD_countRows_n jm_MD_countRows_f rfl rfl rfl rfl rfl rfl rfl (Nat.zero_le _) (Nat.zero_le _) ?_
                  first
                    | (exfalso; omega)
                    | (exfalso; simp (disch := omega) only [Int32.lt_iff_toInt_lt, Int32.le_iff_toInt_le, ← Int32.toInt_inj, Int32.reduceToInt, nI_toInt] at c3 c2LedcanAsk m2MDisIn m5MDisIn m2MDisIn_2 m5MDisIn_2 m5MDhasMonths; done)
                    | (exfalso; simp (disch := omega) only [Int32.lt_iff_toInt_lt, Int32.le_iff_toInt_le, ← Int32.toInt_inj, Int32.reduceToInt, nI_toInt] at c3 c2LedcanAsk m2MDisIn m5MDisIn m2MDisIn_2 m5MDisIn_2 m5MDhasMonths; omega)
      · refine jr_iload rfl rfl ?_
        refine jr_ic rfl ?_
        refine jr_icmp_gt rfl (fun c5LedcanAsk => ?_) (fun c5LedcanAsk => ?_)
        · refine jr_ic rfl ?_
          refine jr_zret rfl rfl rfl (Nat.zero_le _) (Nat.zero_le _) ?_
          refine jr_if_eq rfl (fun _ => ?_) (fun z => absurd (by decide) z)
          refine jr_ic rfl ?_
          refine jr_iret rfl rfl (Nat.zero_le _) (Nat.zero_le _) ?_
          show jx_W (jm_MD_known, d + 40, 0, 0, false, 1, _) _ 0 0 0 [some _, some _, some _, some _, some _, none] [] _
          refine jr_iload rfl rfl ?_
          refine jr_ic rfl ?_
          refine jr_ic rfl ?_
          refine jr_cs3 (mc' := 0) (ms' := 0) rfl jm_MD_isIn_n jm_MD_isIn_f rfl rfl rfl rfl rfl (Nat.zero_le _) (Nat.zero_le _) ?_
          show jx_W (jm_MD_isIn, _, _, _, _, _, _) _ 0 0 0 [some _, some _, some _] [] _
          refine jr_iload rfl rfl ?_
          refine jr_iload rfl rfl ?_
          refine jr_icmp_lt rfl (fun m2MDisIn => ?_) (fun m2MDisIn => ?_)
          · refine jr_ic rfl ?_
            refine jr_zret rfl rfl rfl (Nat.zero_le _) (Nat.zero_le _) ?_
            refine jr_if_eq rfl (fun _ => ?_) (fun z => absurd (by decide) z)
            refine jr_ic rfl ?_
            refine jr_iret rfl rfl (Nat.zero_le _) (Nat.zero_le _) ?_
            first
              | exact ⟨rfl, hRel0⟩
              | (exfalso; omega)
              | (exfalso; simp (disch := omega) only [Int32.lt_iff_toInt_lt, Int32.le_iff_toInt_le, ← Int32.toInt_inj, Int32.reduceToInt, nI_toInt] at c3 c2LedcanAsk c5LedcanAsk m2MDisIn; done)
              | (exfalso; simp (disch := omega) only [Int32.lt_iff_toInt_lt, Int32.le_iff_toInt_le, ← Int32.toInt_inj, Int32.reduceToInt, nI_toInt] at c3 c2LedcanAsk c5LedcanAsk m2MDisIn; omega)
          · refine jr_iload rfl rfl ?_
            refine jr_iload rfl rfl ?_
            refine jr_icmp_gt rfl (fun m5MDisIn => ?_) (fun m5MDisIn => ?_)
            · refine jr_ic rfl ?_
              refine jr_zret rfl rfl rfl (Nat.zero_le _) (Nat.zero_le _) ?_
              refine jr_if_eq rfl (fun _ => ?_) (fun z => absurd (by decide) z)
              refine jr_ic rfl ?_
              refine jr_iret rfl rfl (Nat.zero_le _) (Nat.zero_le _) ?_
              first
                | exact ⟨rfl, hRel0⟩
                | (exfalso; omega)
                | (exfalso; simp (disch := omega) only [Int32.lt_iff_toInt_lt, Int32.le_iff_toInt_le, ← Int32.toInt_inj, Int32.reduceToInt, nI_toInt] at c3 c2LedcanAsk c5LedcanAsk m2MDisIn m5MDisIn; done)
                | (exfalso; simp (disch := omega) only [Int32.lt_iff_toInt_lt, Int32.le_iff_toInt_le, ← Int32.toInt_inj, Int32.reduceToInt, nI_toInt] at c3 c2LedcanAsk c5LedcanAsk m2MDisIn m5MDisIn; omega)
            · refine jr_ic rfl ?_
              refine jr_goto rfl ?_
              refine jr_zret rfl rfl rfl (Nat.zero_le _) (Nat.zero_le _) ?_
              refine jr_if_eq rfl (fun z => absurd z (by decide)) (fun _ => ?_)
              refine jr_iload rfl rfl ?_
              refine jr_ic rfl ?_
              refine jr_iload rfl rfl ?_
              refine jr_ic rfl ?_
              refine jr_isub rfl ?_
              refine jr_cs3 (mc' := 0) (ms' := 0) rfl jm_MD_isIn_n jm_MD_isIn_f rfl rfl rfl rfl rfl (Nat.zero_le _) (Nat.zero_le _) ?_
              show jx_W (jm_MD_isIn, _, _, _, _, _, _) _ 0 0 0 [some _, some _, some _] [] _
              refine jr_iload rfl rfl ?_
              refine jr_iload rfl rfl ?_
              refine jr_icmp_lt rfl (fun m2MDisIn_2 => ?_) (fun m2MDisIn_2 => ?_)
              · refine jr_ic rfl ?_
                refine jr_zret rfl rfl rfl (Nat.zero_le _) (Nat.zero_le _) ?_
                refine jr_if_eq rfl (fun _ => ?_) (fun z => absurd (by decide) z)
                refine jr_ic rfl ?_
                refine jr_iret rfl rfl (Nat.zero_le _) (Nat.zero_le _) ?_
                first
                  | exact ⟨rfl, hRel0⟩
                  | (exfalso; omega)
                  | (exfalso; simp (disch := omega) only [Int32.lt_iff_toInt_lt, Int32.le_iff_toInt_le, ← Int32.toInt_inj, Int32.reduceToInt, nI_toInt] at c3 c2LedcanAsk c5LedcanAsk m2MDisIn m5MDisIn m2MDisIn_2; done)
                  | (exfalso; simp (disch := omega) only [Int32.lt_iff_toInt_lt, Int32.le_iff_toInt_le, ← Int32.toInt_inj, Int32.reduceToInt, nI_toInt] at c3 c2LedcanAsk c5LedcanAsk m2MDisIn m5MDisIn m2MDisIn_2; omega)
              · refine jr_iload rfl rfl ?_
                refine jr_iload rfl rfl ?_
                refine jr_icmp_gt rfl (fun m5MDisIn_2 => ?_) (fun m5MDisIn_2 => ?_)
                · refine jr_ic rfl ?_
                  refine jr_zret rfl rfl rfl (Nat.zero_le _) (Nat.zero_le _) ?_
                  refine jr_if_eq rfl (fun _ => ?_) (fun z => absurd (by decide) z)
                  refine jr_ic rfl ?_
                  refine jr_iret rfl rfl (Nat.zero_le _) (Nat.zero_le _) ?_
                  first
                    | exact ⟨rfl, hRel0⟩
                    | (exfalso; omega)
                    | (exfalso; simp (disch := omega) only [Int32.lt_iff_toInt_lt, Int32.le_iff_toInt_le, ← Int32.toInt_inj, Int32.reduceToInt, nI_toInt] at c3 c2LedcanAsk c5LedcanAsk m2MDisIn m5MDisIn m2MDisIn_2 m5MDisIn_2; done)
                    | (exfalso; simp (disch := omega) only [Int32.lt_iff_toInt_lt, Int32.le_iff_toInt_le, ← Int32.toInt_inj, Int32.reduceToInt, nI_toInt] at c3 c2LedcanAsk c5LedcanAsk m2MDisIn m5MDisIn m2MDisIn_2 m5MDisIn_2; omega)
                · refine jr_ic rfl ?_
                  refine jr_goto rfl ?_
                  refine jr_zret rfl rfl rfl (Nat.zero_le _) (Nat.zero_le _) ?_
                  refine jr_if_eq rfl (fun z => absurd z (by decide)) (fun _ => ?_)
                  refine jr_aload rfl rfl ?_
                  refine jr_cv0 (mc' := 0) (ms' := 0) rfl jm_MD_hasMonths_n jm_MD_hasMonths_f rfl rfl rfl rfl rfl rfl rfl (Nat.zero_le _) (Nat.zero_le _) ?_
                  show jx_W (jm_MD_hasMonths, _, _, _, _, _, _) _ 0 0 0 [some _] [] _
                  refine jr_aload rfl rfl ?_
                  refine jr_getR rfl rfl rfl rfl (Or.inl rfl) ?_
                  refine jr_aload rfl rfl ?_
                  refine jr_getI rfl rfl ?_
                  refine jr_iald (len := 2) rfl rfl hw.1 (by omega) ?_
                  refine jr_if_le rfl (fun m5MDhasMonths => ?_) (fun m5MDhasMonths => ?_)
                  · refine jr_ic rfl ?_
                    refine jr_zret rfl rfl rfl (Nat.zero_le _) (Nat.zero_le _) ?_
                    refine jr_if_ne rfl (fun z => absurd (by decide) z) (fun _ => ?_)
                    refine jr_ic rfl ?_
                    refine jr_iret rfl rfl (Nat.zero_le _) (Nat.zero_le _) ?_
                    first
                      | exact ⟨rfl, hRel0⟩
                      | (exfalso; omega)
                      | (exfalso; simp (disch := omega) only [Int32.lt_iff_toInt_lt, Int32.le_iff_toInt_le, ← Int32.toInt_inj, Int32.reduceToInt, nI_toInt] at c3 c2LedcanAsk c5LedcanAsk m2MDisIn m5MDisIn m2MDisIn_2 m5MDisIn_2 m5MDhasMonths; done)
                      | (exfalso; simp (disch := omega) only [Int32.lt_iff_toInt_lt, Int32.le_iff_toInt_le, ← Int32.toInt_inj, Int32.reduceToInt, nI_toInt] at c3 c2LedcanAsk c5LedcanAsk m2MDisIn m5MDisIn m2MDisIn_2 m5MDisIn_2 m5MDhasMonths; omega)
                  · refine jr_ic rfl ?_
                    refine jr_goto rfl ?_
                    refine jr_zret rfl rfl rfl (Nat.zero_le _) (Nat.zero_le _) ?_
                    refine jr_if_ne rfl (fun _ => ?_) (fun z => absurd z (by decide))
                    refine jr_aload rfl rfl ?_
                    refine jr_iload rfl rfl ?_
                    refine jr_iload rfl rfl ?_
                    refine jr_cv2 (mc' := 0) (ms' := 0) rfl jm_MD_countRows_n jm_MD_countRows_f rfl rfl rfl rfl rfl rfl rfl (Nat.zero_le _) (Nat.zero_le _) ?_
                    first
                      | (exfalso; omega)
                      | (exfalso; simp (disch := omega) only [Int32.lt_iff_toInt_lt, Int32.le_iff_toInt_le, ← Int32.toInt_inj, Int32.reduceToInt, nI_toInt] at c3 c2LedcanAsk c5LedcanAsk m2MDisIn m5MDisIn m2MDisIn_2 m5MDisIn_2 m5MDhasMonths; done)
                      | (exfalso; simp (disch := omega) only [Int32.lt_iff_toInt_lt, Int32.le_iff_toInt_le, ← Int32.toInt_inj, Int32.reduceToInt, nI_toInt] at c3 c2LedcanAsk c5LedcanAsk m2MDisIn m5MDisIn m2MDisIn_2 m5MDisIn_2 m5MDhasMonths; omega)
        · refine jr_ic rfl ?_
          refine jr_goto rfl ?_
          refine jr_zret rfl rfl rfl (Nat.zero_le _) (Nat.zero_le _) ?_
          refine jr_if_eq rfl (fun z => absurd z (by decide)) (fun _ => ?_)
          refine jr_iload rfl rfl ?_
          refine jr_if_lt rfl (fun c10 => ?_) (fun c10 => ?_)
          · refine jr_ic rfl ?_
            refine jr_iret rfl rfl (Nat.zero_le _) (Nat.zero_le _) ?_
            show jx_W (jm_MD_known, d + 40, 0, 0, false, 1, _) _ 0 0 0 [some _, some _, some _, some _, some _, none] [] _
            refine jr_iload rfl rfl ?_
            refine jr_ic rfl ?_
            refine jr_ic rfl ?_
            refine jr_cs3 (mc' := 0) (ms' := 0) rfl jm_MD_isIn_n jm_MD_isIn_f rfl rfl rfl rfl rfl (Nat.zero_le _) (Nat.zero_le _) ?_
            show jx_W (jm_MD_isIn, _, _, _, _, _, _) _ 0 0 0 [some _, some _, some _] [] _
            refine jr_iload rfl rfl ?_
            refine jr_iload rfl rfl ?_
            refine jr_icmp_lt rfl (fun m2MDisIn => ?_) (fun m2MDisIn => ?_)
            · refine jr_ic rfl ?_
              refine jr_zret rfl rfl rfl (Nat.zero_le _) (Nat.zero_le _) ?_
              refine jr_if_eq rfl (fun _ => ?_) (fun z => absurd (by decide) z)
              refine jr_ic rfl ?_
              refine jr_iret rfl rfl (Nat.zero_le _) (Nat.zero_le _) ?_
              first
                | exact ⟨rfl, hRel0⟩
                | (exfalso; omega)
                | (exfalso; simp (disch := omega) only [Int32.lt_iff_toInt_lt, Int32.le_iff_toInt_le, ← Int32.toInt_inj, Int32.reduceToInt, nI_toInt] at c3 c2LedcanAsk c5LedcanAsk c10 m2MDisIn; done)
                | (exfalso; simp (disch := omega) only [Int32.lt_iff_toInt_lt, Int32.le_iff_toInt_le, ← Int32.toInt_inj, Int32.reduceToInt, nI_toInt] at c3 c2LedcanAsk c5LedcanAsk c10 m2MDisIn; omega)
            · refine jr_iload rfl rfl ?_
              refine jr_iload rfl rfl ?_
              refine jr_icmp_gt rfl (fun m5MDisIn => ?_) (fun m5MDisIn => ?_)
              · refine jr_ic rfl ?_
                refine jr_zret rfl rfl rfl (Nat.zero_le _) (Nat.zero_le _) ?_
                refine jr_if_eq rfl (fun _ => ?_) (fun z => absurd (by decide) z)
                refine jr_ic rfl ?_
                refine jr_iret rfl rfl (Nat.zero_le _) (Nat.zero_le _) ?_
                first
                  | exact ⟨rfl, hRel0⟩
                  | (exfalso; omega)
                  | (exfalso; simp (disch := omega) only [Int32.lt_iff_toInt_lt, Int32.le_iff_toInt_le, ← Int32.toInt_inj, Int32.reduceToInt, nI_toInt] at c3 c2LedcanAsk c5LedcanAsk c10 m2MDisIn m5MDisIn; done)
                  | (exfalso; simp (disch := omega) only [Int32.lt_iff_toInt_lt, Int32.le_iff_toInt_le, ← Int32.toInt_inj, Int32.reduceToInt, nI_toInt] at c3 c2LedcanAsk c5LedcanAsk c10 m2MDisIn m5MDisIn; omega)
              · refine jr_ic rfl ?_
                refine jr_goto rfl ?_
                refine jr_zret rfl rfl rfl (Nat.zero_le _) (Nat.zero_le _) ?_
                refine jr_if_eq rfl (fun z => absurd z (by decide)) (fun _ => ?_)
                refine jr_iload rfl rfl ?_
                refine jr_ic rfl ?_
                refine jr_iload rfl rfl ?_
                refine jr_ic rfl ?_
                refine jr_isub rfl ?_
                refine jr_cs3 (mc' := 0) (ms' := 0) rfl jm_MD_isIn_n jm_MD_isIn_f rfl rfl rfl rfl rfl (Nat.zero_le _) (Nat.zero_le _) ?_
                show jx_W (jm_MD_isIn, _, _, _, _, _, _) _ 0 0 0 [some _, some _, some _] [] _
                refine jr_iload rfl rfl ?_
                refine jr_iload rfl rfl ?_
                refine jr_icmp_lt rfl (fun m2MDisIn_2 => ?_) (fun m2MDisIn_2 => ?_)
                · refine jr_ic rfl ?_
                  refine jr_zret rfl rfl rfl (Nat.zero_le _) (Nat.zero_le _) ?_
                  refine jr_if_eq rfl (fun _ => ?_) (fun z => absurd (by decide) z)
                  refine jr_ic rfl ?_
                  refine jr_iret rfl rfl (Nat.zero_le _) (Nat.zero_le _) ?_
                  first
                    | exact ⟨rfl, hRel0⟩
                    | (exfalso; omega)
                    | (exfalso; simp (disch := omega) only [Int32.lt_iff_toInt_lt, Int32.le_iff_toInt_le, ← Int32.toInt_inj, Int32.reduceToInt, nI_toInt] at c3 c2LedcanAsk c5LedcanAsk c10 m2MDisIn m5MDisIn m2MDisIn_2; done)
                    | (exfalso; simp (disch := omega) only [Int32.lt_iff_toInt_lt, Int32.le_iff_toInt_le, ← Int32.toInt_inj, Int32.reduceToInt, nI_toInt] at c3 c2LedcanAsk c5LedcanAsk c10 m2MDisIn m5MDisIn m2MDisIn_2; omega)
                · refine jr_iload rfl rfl ?_
                  refine jr_iload rfl rfl ?_
                  refine jr_icmp_gt rfl (fun m5MDisIn_2 => ?_) (fun m5MDisIn_2 => ?_)
                  · refine jr_ic rfl ?_
                    refine jr_zret rfl rfl rfl (Nat.zero_le _) (Nat.zero_le _) ?_
                    refine jr_if_eq rfl (fun _ => ?_) (fun z => absurd (by decide) z)
                    refine jr_ic rfl ?_
                    refine jr_iret rfl rfl (Nat.zero_le _) (Nat.zero_le _) ?_
                    first
                      | exact ⟨rfl, hRel0⟩
                      | (exfalso; omega)
                      | (exfalso; simp (disch := omega) only [Int32.lt_iff_toInt_lt, Int32.le_iff_toInt_le, ← Int32.toInt_inj, Int32.reduceToInt, nI_toInt] at c3 c2LedcanAsk c5LedcanAsk c10 m2MDisIn m5MDisIn m2MDisIn_2 m5MDisIn_2; done)
                      | (exfalso; simp (disch := omega) only [Int32.lt_iff_toInt_lt, Int32.le_iff_toInt_le, ← Int32.toInt_inj, Int32.reduceToInt, nI_toInt] at c3 c2LedcanAsk c5LedcanAsk c10 m2MDisIn m5MDisIn m2MDisIn_2 m5MDisIn_2; omega)
                  · refine jr_ic rfl ?_
                    refine jr_goto rfl ?_
                    refine jr_zret rfl rfl rfl (Nat.zero_le _) (Nat.zero_le _) ?_
                    refine jr_if_eq rfl (fun z => absurd z (by decide)) (fun _ => ?_)
                    refine jr_aload rfl rfl ?_
                    refine jr_cv0 (mc' := 0) (ms' := 0) rfl jm_MD_hasMonths_n jm_MD_hasMonths_f rfl rfl rfl rfl rfl rfl rfl (Nat.zero_le _) (Nat.zero_le _) ?_
                    show jx_W (jm_MD_hasMonths, _, _, _, _, _, _) _ 0 0 0 [some _] [] _
                    refine jr_aload rfl rfl ?_
                    refine jr_getR rfl rfl rfl rfl (Or.inl rfl) ?_
                    refine jr_aload rfl rfl ?_
                    refine jr_getI rfl rfl ?_
                    refine jr_iald (len := 2) rfl rfl hw.1 (by omega) ?_
                    refine jr_if_le rfl (fun m5MDhasMonths => ?_) (fun m5MDhasMonths => ?_)
                    · refine jr_ic rfl ?_
                      refine jr_zret rfl rfl rfl (Nat.zero_le _) (Nat.zero_le _) ?_
                      refine jr_if_ne rfl (fun z => absurd (by decide) z) (fun _ => ?_)
                      refine jr_ic rfl ?_
                      refine jr_iret rfl rfl (Nat.zero_le _) (Nat.zero_le _) ?_
                      first
                        | exact ⟨rfl, hRel0⟩
                        | (exfalso; omega)
                        | (exfalso; simp (disch := omega) only [Int32.lt_iff_toInt_lt, Int32.le_iff_toInt_le, ← Int32.toInt_inj, Int32.reduceToInt, nI_toInt] at c3 c2LedcanAsk c5LedcanAsk c10 m2MDisIn m5MDisIn m2MDisIn_2 m5MDisIn_2 m5MDhasMonths; done)
                        | (exfalso; simp (disch := omega) only [Int32.lt_iff_toInt_lt, Int32.le_iff_toInt_le, ← Int32.toInt_inj, Int32.reduceToInt, nI_toInt] at c3 c2LedcanAsk c5LedcanAsk c10 m2MDisIn m5MDisIn m2MDisIn_2 m5MDisIn_2 m5MDhasMonths; omega)
                    · refine jr_ic rfl ?_
                      refine jr_goto rfl ?_
                      refine jr_zret rfl rfl rfl (Nat.zero_le _) (Nat.zero_le _) ?_
                      refine jr_if_ne rfl (fun _ => ?_) (fun z => absurd z (by decide))
                      refine jr_aload rfl rfl ?_
                      refine jr_iload rfl rfl ?_
                      refine jr_iload rfl rfl ?_
                      refine jr_cv2 (mc' := 0) (ms' := 0) rfl jm_MD_countRows_n jm_MD_countRows_f rfl rfl rfl rfl rfl rfl rfl (Nat.zero_le _) (Nat.zero_le _) ?_
                      first
                        | (exfalso; omega)
                        | (exfalso; simp (disch := omega) only [Int32.lt_iff_toInt_lt, Int32.le_iff_toInt_le, ← Int32.toInt_inj, Int32.reduceToInt, nI_toInt] at c3 c2LedcanAsk c5LedcanAsk c10 m2MDisIn m5MDisIn m2MDisIn_2 m5MDisIn_2 m5MDhasMonths; done)
                        | (exfalso; simp (disch := omega) only [Int32.lt_iff_toInt_lt, Int32.le_iff_toInt_le, ← Int32.toInt_inj, Int32.reduceToInt, nI_toInt] at c3 c2LedcanAsk c5LedcanAsk c10 m2MDisIn m5MDisIn m2MDisIn_2 m5MDisIn_2 m5MDhasMonths; omega)
          · refine jr_iload rfl rfl ?_
            refine jr_iload rfl rfl ?_
            refine jr_icmp_lt rfl (fun c13 => ?_) (fun c13 => ?_)
            · refine jr_aload rfl rfl ?_
              refine jr_getR rfl rfl rfl rfl (Or.inl rfl) ?_
              refine jr_aload rfl rfl ?_
              refine jr_getM rfl rfl rfl rfl hto ?_
              refine jr_iload rfl rfl ?_
              refine jr_iload rfl rfl ?_
              refine jr_cv3 (mc' := 0) (ms' := 0) rfl jm_Led_rows_n jm_Led_rows_f rfl rfl rfl rfl rfl rfl rfl (Nat.zero_le _) (Nat.zero_le _) ?_
              first
                | (exfalso; omega)
                | (exfalso; simp (disch := omega) only [Int32.lt_iff_toInt_lt, Int32.le_iff_toInt_le, ← Int32.toInt_inj, Int32.reduceToInt, nI_toInt] at c3 c2LedcanAsk c5LedcanAsk c10 c13; done)
                | (exfalso; simp (disch := omega) only [Int32.lt_iff_toInt_lt, Int32.le_iff_toInt_le, ← Int32.toInt_inj, Int32.reduceToInt, nI_toInt] at c3 c2LedcanAsk c5LedcanAsk c10 c13; omega)
            · refine jr_ic rfl ?_
              refine jr_iret rfl rfl (Nat.zero_le _) (Nat.zero_le _) ?_
              show jx_W (jm_MD_known, d + 40, 0, 0, false, 1, _) _ 0 0 0 [some _, some _, some _, some _, some _, none] [] _
              refine jr_iload rfl rfl ?_
              refine jr_ic rfl ?_
              refine jr_ic rfl ?_
              refine jr_cs3 (mc' := 0) (ms' := 0) rfl jm_MD_isIn_n jm_MD_isIn_f rfl rfl rfl rfl rfl (Nat.zero_le _) (Nat.zero_le _) ?_
              show jx_W (jm_MD_isIn, _, _, _, _, _, _) _ 0 0 0 [some _, some _, some _] [] _
              refine jr_iload rfl rfl ?_
              refine jr_iload rfl rfl ?_
              refine jr_icmp_lt rfl (fun m2MDisIn => ?_) (fun m2MDisIn => ?_)
              · refine jr_ic rfl ?_
                refine jr_zret rfl rfl rfl (Nat.zero_le _) (Nat.zero_le _) ?_
                refine jr_if_eq rfl (fun _ => ?_) (fun z => absurd (by decide) z)
                refine jr_ic rfl ?_
                refine jr_iret rfl rfl (Nat.zero_le _) (Nat.zero_le _) ?_
                first
                  | exact ⟨rfl, hRel0⟩
                  | (exfalso; omega)
                  | (exfalso; simp (disch := omega) only [Int32.lt_iff_toInt_lt, Int32.le_iff_toInt_le, ← Int32.toInt_inj, Int32.reduceToInt, nI_toInt] at c3 c2LedcanAsk c5LedcanAsk c10 c13 m2MDisIn; done)
                  | (exfalso; simp (disch := omega) only [Int32.lt_iff_toInt_lt, Int32.le_iff_toInt_le, ← Int32.toInt_inj, Int32.reduceToInt, nI_toInt] at c3 c2LedcanAsk c5LedcanAsk c10 c13 m2MDisIn; omega)
              · refine jr_iload rfl rfl ?_
                refine jr_iload rfl rfl ?_
                refine jr_icmp_gt rfl (fun m5MDisIn => ?_) (fun m5MDisIn => ?_)
                · refine jr_ic rfl ?_
                  refine jr_zret rfl rfl rfl (Nat.zero_le _) (Nat.zero_le _) ?_
                  refine jr_if_eq rfl (fun _ => ?_) (fun z => absurd (by decide) z)
                  refine jr_ic rfl ?_
                  refine jr_iret rfl rfl (Nat.zero_le _) (Nat.zero_le _) ?_
                  first
                    | exact ⟨rfl, hRel0⟩
                    | (exfalso; omega)
                    | (exfalso; simp (disch := omega) only [Int32.lt_iff_toInt_lt, Int32.le_iff_toInt_le, ← Int32.toInt_inj, Int32.reduceToInt, nI_toInt] at c3 c2LedcanAsk c5LedcanAsk c10 c13 m2MDisIn m5MDisIn; done)
                    | (exfalso; simp (disch := omega) only [Int32.lt_iff_toInt_lt, Int32.le_iff_toInt_le, ← Int32.toInt_inj, Int32.reduceToInt, nI_toInt] at c3 c2LedcanAsk c5LedcanAsk c10 c13 m2MDisIn m5MDisIn; omega)
                · refine jr_ic rfl ?_
                  refine jr_goto rfl ?_
                  refine jr_zret rfl rfl rfl (Nat.zero_le _) (Nat.zero_le _) ?_
                  refine jr_if_eq rfl (fun z => absurd z (by decide)) (fun _ => ?_)
                  refine jr_iload rfl rfl ?_
                  refine jr_ic rfl ?_
                  refine jr_iload rfl rfl ?_
                  refine jr_ic rfl ?_
                  refine jr_isub rfl ?_
                  refine jr_cs3 (mc' := 0) (ms' := 0) rfl jm_MD_isIn_n jm_MD_isIn_f rfl rfl rfl rfl rfl (Nat.zero_le _) (Nat.zero_le _) ?_
                  show jx_W (jm_MD_isIn, _, _, _, _, _, _) _ 0 0 0 [some _, some _, some _] [] _
                  refine jr_iload rfl rfl ?_
                  refine jr_iload rfl rfl ?_
                  refine jr_icmp_lt rfl (fun m2MDisIn_2 => ?_) (fun m2MDisIn_2 => ?_)
                  · refine jr_ic rfl ?_
                    refine jr_zret rfl rfl rfl (Nat.zero_le _) (Nat.zero_le _) ?_
                    refine jr_if_eq rfl (fun _ => ?_) (fun z => absurd (by decide) z)
                    refine jr_ic rfl ?_
                    refine jr_iret rfl rfl (Nat.zero_le _) (Nat.zero_le _) ?_
                    first
                      | exact ⟨rfl, hRel0⟩
                      | (exfalso; omega)
                      | (exfalso; simp (disch := omega) only [Int32.lt_iff_toInt_lt, Int32.le_iff_toInt_le, ← Int32.toInt_inj, Int32.reduceToInt, nI_toInt] at c3 c2LedcanAsk c5LedcanAsk c10 c13 m2MDisIn m5MDisIn m2MDisIn_2; done)
                      | (exfalso; simp (disch := omega) only [Int32.lt_iff_toInt_lt, Int32.le_iff_toInt_le, ← Int32.toInt_inj, Int32.reduceToInt, nI_toInt] at c3 c2LedcanAsk c5LedcanAsk c10 c13 m2MDisIn m5MDisIn m2MDisIn_2; omega)
                  · refine jr_iload rfl rfl ?_
                    refine jr_iload rfl rfl ?_
                    refine jr_icmp_gt rfl (fun m5MDisIn_2 => ?_) (fun m5MDisIn_2 => ?_)
                    · refine jr_ic rfl ?_
                      refine jr_zret rfl rfl rfl (Nat.zero_le _) (Nat.zero_le _) ?_
                      refine jr_if_eq rfl (fun _ => ?_) (fun z => absurd (by decide) z)
                      refine jr_ic rfl ?_
                      refine jr_iret rfl rfl (Nat.zero_le _) (Nat.zero_le _) ?_
                      first
                        | exact ⟨rfl, hRel0⟩
                        | (exfalso; omega)
                        | (exfalso; simp (disch := omega) only [Int32.lt_iff_toInt_lt, Int32.le_iff_toInt_le, ← Int32.toInt_inj, Int32.reduceToInt, nI_toInt] at c3 c2LedcanAsk c5LedcanAsk c10 c13 m2MDisIn m5MDisIn m2MDisIn_2 m5MDisIn_2; done)
                        | (exfalso; simp (disch := omega) only [Int32.lt_iff_toInt_lt, Int32.le_iff_toInt_le, ← Int32.toInt_inj, Int32.reduceToInt, nI_toInt] at c3 c2LedcanAsk c5LedcanAsk c10 c13 m2MDisIn m5MDisIn m2MDisIn_2 m5MDisIn_2; omega)
                    · refine jr_ic rfl ?_
                      refine jr_goto rfl ?_
                      refine jr_zret rfl rfl rfl (Nat.zero_le _) (Nat.zero_le _) ?_
                      refine jr_if_eq rfl (fun z => absurd z (by decide)) (fun _ => ?_)
                      refine jr_aload rfl rfl ?_
                      refine jr_cv0 (mc' := 0) (ms' := 0) rfl jm_MD_hasMonths_n jm_MD_hasMonths_f rfl rfl rfl rfl rfl rfl rfl (Nat.zero_le _) (Nat.zero_le _) ?_
                      show jx_W (jm_MD_hasMonths, _, _, _, _, _, _) _ 0 0 0 [some _] [] _
                      refine jr_aload rfl rfl ?_
                      refine jr_getR rfl rfl rfl rfl (Or.inl rfl) ?_
                      refine jr_aload rfl rfl ?_
                      refine jr_getI rfl rfl ?_
                      refine jr_iald (len := 2) rfl rfl hw.1 (by omega) ?_
                      refine jr_if_le rfl (fun m5MDhasMonths => ?_) (fun m5MDhasMonths => ?_)
                      · refine jr_ic rfl ?_
                        refine jr_zret rfl rfl rfl (Nat.zero_le _) (Nat.zero_le _) ?_
                        refine jr_if_ne rfl (fun z => absurd (by decide) z) (fun _ => ?_)
                        refine jr_ic rfl ?_
                        refine jr_iret rfl rfl (Nat.zero_le _) (Nat.zero_le _) ?_
                        first
                          | exact ⟨rfl, hRel0⟩
                          | (exfalso; omega)
                          | (exfalso; simp (disch := omega) only [Int32.lt_iff_toInt_lt, Int32.le_iff_toInt_le, ← Int32.toInt_inj, Int32.reduceToInt, nI_toInt] at c3 c2LedcanAsk c5LedcanAsk c10 c13 m2MDisIn m5MDisIn m2MDisIn_2 m5MDisIn_2 m5MDhasMonths; done)
                          | (exfalso; simp (disch := omega) only [Int32.lt_iff_toInt_lt, Int32.le_iff_toInt_le, ← Int32.toInt_inj, Int32.reduceToInt, nI_toInt] at c3 c2LedcanAsk c5LedcanAsk c10 c13 m2MDisIn m5MDisIn m2MDisIn_2 m5MDisIn_2 m5MDhasMonths; omega)
                      · refine jr_ic rfl ?_
                        refine jr_goto rfl ?_
                        refine jr_zret rfl rfl rfl (Nat.zero_le _) (Nat.zero_le _) ?_
                        refine jr_if_ne rfl (fun _ => ?_) (fun z => absurd z (by decide))
                        refine jr_aload rfl rfl ?_
                        refine jr_iload rfl rfl ?_
                        refine jr_iload rfl rfl ?_
                        refine jr_cv2 (mc' := 0) (ms' := 0) rfl jm_MD_countRows_n jm_MD_countRows_f rfl rfl rfl rfl rfl rfl rfl (Nat.zero_le _) (Nat.zero_le _) ?_
                        first
                          | (exfalso; omega)
                          | (exfalso; simp (disch := omega) only [Int32.lt_iff_toInt_lt, Int32.le_iff_toInt_le, ← Int32.toInt_inj, Int32.reduceToInt, nI_toInt] at c3 c2LedcanAsk c5LedcanAsk c10 c13 m2MDisIn m5MDisIn m2MDisIn_2 m5MDisIn_2 m5MDhasMonths; done)
                          | (exfalso; simp (disch := omega) only [Int32.lt_iff_toInt_lt, Int32.le_iff_toInt_le, ← Int32.toInt_inj, Int32.reduceToInt, nI_toInt] at c3 c2LedcanAsk c5LedcanAsk c10 c13 m2MDisIn m5MDisIn m2MDisIn_2 m5MDisIn_2 m5MDhasMonths; omega)
  · have hn1 : 0 < jz_nm hm b := by
      rcases Nat.eq_zero_or_pos (jz_nm hm b) with e | e
      · rw [e] at hnm; exact absurd hnm.1 hmo
      · exact e
    have hn0n : 0 < jz_nm hm b := hn1
    have ki1 : (nI i - 1).toInt = (nI i).toInt - 1 := by rw [Int32.toInt_sub, show (1 : Int32).toInt = 1 from rfl]; exact jn_sm (by omega) (by omega)
    have hP5 := jl_P5 hw hn0n hi
    have hcl := jl_cnt_le (jl_gm hm b w n i (jl_q hm) (jl_mo hm) (jl_e hm)) (jl_P (jl_w hm b) i)
    rcases nI_dec y i (by omega) with ⟨j, rfl, hj, hj2⟩ | hj
    · show jx_W (jm_JV_known, d + 40, 0, 0, false, 0, _) _ 0 0 0 [some (jv_r 10 0), some (jv_i (nI i)), some (jv_i (nI j)), some (jv_i z), some (jv_i w), none] [] _
      refine jr_aload rfl rfl ?_
      refine jr_getM rfl rfl rfl rfl hto ?_
      refine jr_getI rfl rfl ?_
      refine jr_if_eq rfl (fun c3 => ?_) (fun c3 => ?_)
      · refine jr_ic rfl ?_
        refine jr_iret rfl rfl (Nat.zero_le _) (Nat.zero_le _) ?_
        show jx_W (jm_MD_known, d + 40, 0, 0, false, 1, _) _ 0 0 0 [some _, some _, some _, some _, some _, none] [] _
        refine jr_iload rfl rfl ?_
        refine jr_ic rfl ?_
        refine jr_ic rfl ?_
        refine jr_cs3 (mc' := 0) (ms' := 0) rfl jm_MD_isIn_n jm_MD_isIn_f rfl rfl rfl rfl rfl (Nat.zero_le _) (Nat.zero_le _) ?_
        show jx_W (jm_MD_isIn, _, _, _, _, _, _) _ 0 0 0 [some _, some _, some _] [] _
        refine jr_iload rfl rfl ?_
        refine jr_iload rfl rfl ?_
        refine jr_icmp_lt rfl (fun m2MDisIn => ?_) (fun m2MDisIn => ?_)
        · refine jr_ic rfl ?_
          refine jr_zret rfl rfl rfl (Nat.zero_le _) (Nat.zero_le _) ?_
          refine jr_if_eq rfl (fun _ => ?_) (fun z => absurd (by decide) z)
          refine jr_ic rfl ?_
          refine jr_iret rfl rfl (Nat.zero_le _) (Nat.zero_le _) ?_
          first
            | exact ⟨rfl, hRel0⟩
            | (exfalso; omega)
            | (exfalso; simp (disch := omega) only [Int32.lt_iff_toInt_lt, Int32.le_iff_toInt_le, ← Int32.toInt_inj, Int32.reduceToInt, nI_toInt] at c3 m2MDisIn; done)
            | (exfalso; simp (disch := omega) only [Int32.lt_iff_toInt_lt, Int32.le_iff_toInt_le, ← Int32.toInt_inj, Int32.reduceToInt, nI_toInt] at c3 m2MDisIn; omega)
        · refine jr_iload rfl rfl ?_
          refine jr_iload rfl rfl ?_
          refine jr_icmp_gt rfl (fun m5MDisIn => ?_) (fun m5MDisIn => ?_)
          · refine jr_ic rfl ?_
            refine jr_zret rfl rfl rfl (Nat.zero_le _) (Nat.zero_le _) ?_
            refine jr_if_eq rfl (fun _ => ?_) (fun z => absurd (by decide) z)
            refine jr_ic rfl ?_
            refine jr_iret rfl rfl (Nat.zero_le _) (Nat.zero_le _) ?_
            first
              | exact ⟨rfl, hRel0⟩
              | (exfalso; omega)
              | (exfalso; simp (disch := omega) only [Int32.lt_iff_toInt_lt, Int32.le_iff_toInt_le, ← Int32.toInt_inj, Int32.reduceToInt, nI_toInt] at c3 m2MDisIn m5MDisIn; done)
              | (exfalso; simp (disch := omega) only [Int32.lt_iff_toInt_lt, Int32.le_iff_toInt_le, ← Int32.toInt_inj, Int32.reduceToInt, nI_toInt] at c3 m2MDisIn m5MDisIn; omega)
          · refine jr_ic rfl ?_
            refine jr_goto rfl ?_
            refine jr_zret rfl rfl rfl (Nat.zero_le _) (Nat.zero_le _) ?_
            refine jr_if_eq rfl (fun z => absurd z (by decide)) (fun _ => ?_)
            refine jr_iload rfl rfl ?_
            refine jr_ic rfl ?_
            refine jr_iload rfl rfl ?_
            refine jr_ic rfl ?_
            refine jr_isub rfl ?_
            refine jr_cs3 (mc' := 0) (ms' := 0) rfl jm_MD_isIn_n jm_MD_isIn_f rfl rfl rfl rfl rfl (Nat.zero_le _) (Nat.zero_le _) ?_
            show jx_W (jm_MD_isIn, _, _, _, _, _, _) _ 0 0 0 [some _, some _, some _] [] _
            refine jr_iload rfl rfl ?_
            refine jr_iload rfl rfl ?_
            refine jr_icmp_lt rfl (fun m2MDisIn_2 => ?_) (fun m2MDisIn_2 => ?_)
            · refine jr_ic rfl ?_
              refine jr_zret rfl rfl rfl (Nat.zero_le _) (Nat.zero_le _) ?_
              refine jr_if_eq rfl (fun _ => ?_) (fun z => absurd (by decide) z)
              refine jr_ic rfl ?_
              refine jr_iret rfl rfl (Nat.zero_le _) (Nat.zero_le _) ?_
              first
                | exact ⟨rfl, hRel0⟩
                | (exfalso; omega)
                | (exfalso; simp (disch := omega) only [Int32.lt_iff_toInt_lt, Int32.le_iff_toInt_le, ← Int32.toInt_inj, Int32.reduceToInt, nI_toInt] at c3 m2MDisIn m5MDisIn m2MDisIn_2; done)
                | (exfalso; simp (disch := omega) only [Int32.lt_iff_toInt_lt, Int32.le_iff_toInt_le, ← Int32.toInt_inj, Int32.reduceToInt, nI_toInt] at c3 m2MDisIn m5MDisIn m2MDisIn_2; omega)
            · refine jr_iload rfl rfl ?_
              refine jr_iload rfl rfl ?_
              refine jr_icmp_gt rfl (fun m5MDisIn_2 => ?_) (fun m5MDisIn_2 => ?_)
              · refine jr_ic rfl ?_
                refine jr_zret rfl rfl rfl (Nat.zero_le _) (Nat.zero_le _) ?_
                refine jr_if_eq rfl (fun _ => ?_) (fun z => absurd (by decide) z)
                refine jr_ic rfl ?_
                refine jr_iret rfl rfl (Nat.zero_le _) (Nat.zero_le _) ?_
                first
                  | exact ⟨rfl, hRel0⟩
                  | (exfalso; omega)
                  | (exfalso; simp (disch := omega) only [Int32.lt_iff_toInt_lt, Int32.le_iff_toInt_le, ← Int32.toInt_inj, Int32.reduceToInt, nI_toInt] at c3 m2MDisIn m5MDisIn m2MDisIn_2 m5MDisIn_2; done)
                  | (exfalso; simp (disch := omega) only [Int32.lt_iff_toInt_lt, Int32.le_iff_toInt_le, ← Int32.toInt_inj, Int32.reduceToInt, nI_toInt] at c3 m2MDisIn m5MDisIn m2MDisIn_2 m5MDisIn_2; omega)
              · refine jr_ic rfl ?_
                refine jr_goto rfl ?_
                refine jr_zret rfl rfl rfl (Nat.zero_le _) (Nat.zero_le _) ?_
                refine jr_if_eq rfl (fun z => absurd z (by decide)) (fun _ => ?_)
                refine jr_aload rfl rfl ?_
                refine jr_cv0 (mc' := 0) (ms' := 0) rfl jm_MD_hasMonths_n jm_MD_hasMonths_f rfl rfl rfl rfl rfl rfl rfl (Nat.zero_le _) (Nat.zero_le _) ?_
                show jx_W (jm_MD_hasMonths, _, _, _, _, _, _) _ 0 0 0 [some _] [] _
                refine jr_aload rfl rfl ?_
                refine jr_getR rfl rfl rfl rfl (Or.inl rfl) ?_
                refine jr_aload rfl rfl ?_
                refine jr_getI rfl rfl ?_
                refine jr_iald (len := 2) rfl rfl hw.1 (by omega) ?_
                refine jr_if_le rfl (fun m5MDhasMonths => ?_) (fun m5MDhasMonths => ?_)
                · refine jr_ic rfl ?_
                  refine jr_zret rfl rfl rfl (Nat.zero_le _) (Nat.zero_le _) ?_
                  refine jr_if_ne rfl (fun z => absurd (by decide) z) (fun _ => ?_)
                  refine jr_ic rfl ?_
                  refine jr_iret rfl rfl (Nat.zero_le _) (Nat.zero_le _) ?_
                  first
                    | exact ⟨rfl, hRel0⟩
                    | (exfalso; omega)
                    | (exfalso; simp (disch := omega) only [Int32.lt_iff_toInt_lt, Int32.le_iff_toInt_le, ← Int32.toInt_inj, Int32.reduceToInt, nI_toInt] at c3 m2MDisIn m5MDisIn m2MDisIn_2 m5MDisIn_2 m5MDhasMonths; done)
                    | (exfalso; simp (disch := omega) only [Int32.lt_iff_toInt_lt, Int32.le_iff_toInt_le, ← Int32.toInt_inj, Int32.reduceToInt, nI_toInt] at c3 m2MDisIn m5MDisIn m2MDisIn_2 m5MDisIn_2 m5MDhasMonths; omega)
                · refine jr_ic rfl ?_
                  refine jr_goto rfl ?_
                  refine jr_zret rfl rfl rfl (Nat.zero_le _) (Nat.zero_le _) ?_
                  refine jr_if_ne rfl (fun _ => ?_) (fun z => absurd z (by decide))
                  refine jr_aload rfl rfl ?_
                  refine jr_iload rfl rfl ?_
                  refine jr_iload rfl rfl ?_
                  refine jr_cv2 (mc' := 0) (ms' := 0) rfl jm_MD_countRows_n jm_MD_countRows_f rfl rfl rfl rfl rfl rfl rfl (Nat.zero_le _) (Nat.zero_le _) ?_
                  refine eM_rowsV (kk := w) hw hn0n hi e1 e3 e4 (fun S5 v5 hS5 hv5 => ?_)
                  refine jr_ist5 rfl rfl ?_
                  refine jr_iload rfl rfl ?_
                  refine jr_ic rfl ?_
                  refine jr_icmp_ge rfl (fun m24 => ?_) (fun m24 => ?_)
                  · refine jr_iload rfl rfl ?_
                    refine jr_if_eq rfl (fun m32 => ?_) (fun m32 => ?_)
                    · refine jr_aload rfl rfl ?_
                      refine jr_getR rfl rfl rfl rfl (Or.inl rfl) ?_
                      refine jr_iload rfl rfl ?_
                      refine jr_iald (len := 5) rfl rfl rfl (by omega) ?_
                      refine jr_iret rfl rfl (Nat.zero_le _) (Nat.zero_le _) ?_
                      first
                        | exact ⟨rfl, hRel0⟩
                        | (exfalso; omega)
                        | (exfalso; simp (disch := omega) only [Int32.lt_iff_toInt_lt, Int32.le_iff_toInt_le, ← Int32.toInt_inj, Int32.reduceToInt, nI_toInt] at c3 m2MDisIn m5MDisIn m2MDisIn_2 m5MDisIn_2 m5MDhasMonths m24 m32; done)
                        | (exfalso; simp (disch := omega) only [Int32.lt_iff_toInt_lt, Int32.le_iff_toInt_le, ← Int32.toInt_inj, Int32.reduceToInt, nI_toInt] at c3 m2MDisIn m5MDisIn m2MDisIn_2 m5MDisIn_2 m5MDhasMonths m24 m32; omega)
                    · refine jr_aload rfl rfl ?_
                      refine jr_getR rfl rfl rfl rfl (Or.inl rfl) ?_
                      refine jr_iload rfl rfl ?_
                      refine jr_iald (len := 5) rfl rfl rfl (by omega) ?_
                      refine jr_goto rfl ?_
                      refine jr_iret rfl rfl (Nat.zero_le _) (Nat.zero_le _) ?_
                      first
                        | exact ⟨rfl, hRel0⟩
                        | (exfalso; omega)
                        | (exfalso; simp (disch := omega) only [Int32.lt_iff_toInt_lt, Int32.le_iff_toInt_le, ← Int32.toInt_inj, Int32.reduceToInt, nI_toInt] at c3 m2MDisIn m5MDisIn m2MDisIn_2 m5MDisIn_2 m5MDhasMonths m24 m32; done)
                        | (exfalso; simp (disch := omega) only [Int32.lt_iff_toInt_lt, Int32.le_iff_toInt_le, ← Int32.toInt_inj, Int32.reduceToInt, nI_toInt] at c3 m2MDisIn m5MDisIn m2MDisIn_2 m5MDisIn_2 m5MDhasMonths m24 m32; omega)
                  · refine jr_iload rfl rfl ?_
                    refine jr_if_ne rfl (fun m26 => ?_) (fun m26 => ?_)
                    · refine jr_ic rfl ?_
                      refine jr_iret rfl rfl (Nat.zero_le _) (Nat.zero_le _) ?_
                      first
                        | exact ⟨rfl, hRel0⟩
                        | (exfalso; omega)
                        | (exfalso; simp (disch := omega) only [Int32.lt_iff_toInt_lt, Int32.le_iff_toInt_le, ← Int32.toInt_inj, Int32.reduceToInt, nI_toInt] at c3 m2MDisIn m5MDisIn m2MDisIn_2 m5MDisIn_2 m5MDhasMonths m24 m26; done)
                        | (exfalso; simp (disch := omega) only [Int32.lt_iff_toInt_lt, Int32.le_iff_toInt_le, ← Int32.toInt_inj, Int32.reduceToInt, nI_toInt] at c3 m2MDisIn m5MDisIn m2MDisIn_2 m5MDisIn_2 m5MDhasMonths m24 m26; omega)
                    · refine jr_ic rfl ?_
                      refine jr_goto rfl ?_
                      refine jr_iret rfl rfl (Nat.zero_le _) (Nat.zero_le _) ?_
                      first
                        | exact ⟨rfl, hRel0⟩
                        | (exfalso; omega)
                        | (exfalso; simp (disch := omega) only [Int32.lt_iff_toInt_lt, Int32.le_iff_toInt_le, ← Int32.toInt_inj, Int32.reduceToInt, nI_toInt] at c3 m2MDisIn m5MDisIn m2MDisIn_2 m5MDisIn_2 m5MDhasMonths m24 m26; done)
                        | (exfalso; simp (disch := omega) only [Int32.lt_iff_toInt_lt, Int32.le_iff_toInt_le, ← Int32.toInt_inj, Int32.reduceToInt, nI_toInt] at c3 m2MDisIn m5MDisIn m2MDisIn_2 m5MDisIn_2 m5MDhasMonths m24 m26; omega)
      · refine jr_aload rfl rfl ?_
        refine jr_getR rfl rfl rfl rfl (Or.inl rfl) ?_
        refine jr_iload rfl rfl ?_
        refine jr_cv1 (mc' := 0) (ms' := 0) rfl jm_Led_canAsk_n jm_Led_canAsk_f rfl rfl rfl rfl rfl rfl rfl (Nat.zero_le _) (Nat.zero_le _) ?_
        show jx_W (jm_Led_canAsk, _, _, _, _, _, _) _ 0 0 0 [some _, some _] [] _
        refine jr_iload rfl rfl ?_
        refine jr_ic rfl ?_
        refine jr_icmp_lt rfl (fun c2LedcanAsk => ?_) (fun c2LedcanAsk => ?_)
        · refine jr_ic rfl ?_
          refine jr_zret rfl rfl rfl (Nat.zero_le _) (Nat.zero_le _) ?_
          refine jr_if_eq rfl (fun _ => ?_) (fun z => absurd (by decide) z)
          refine jr_ic rfl ?_
          refine jr_iret rfl rfl (Nat.zero_le _) (Nat.zero_le _) ?_
          show jx_W (jm_MD_known, d + 40, 0, 0, false, 1, _) _ 0 0 0 [some _, some _, some _, some _, some _, none] [] _
          refine jr_iload rfl rfl ?_
          refine jr_ic rfl ?_
          refine jr_ic rfl ?_
          refine jr_cs3 (mc' := 0) (ms' := 0) rfl jm_MD_isIn_n jm_MD_isIn_f rfl rfl rfl rfl rfl (Nat.zero_le _) (Nat.zero_le _) ?_
          show jx_W (jm_MD_isIn, _, _, _, _, _, _) _ 0 0 0 [some _, some _, some _] [] _
          refine jr_iload rfl rfl ?_
          refine jr_iload rfl rfl ?_
          refine jr_icmp_lt rfl (fun m2MDisIn => ?_) (fun m2MDisIn => ?_)
          · refine jr_ic rfl ?_
            refine jr_zret rfl rfl rfl (Nat.zero_le _) (Nat.zero_le _) ?_
            refine jr_if_eq rfl (fun _ => ?_) (fun z => absurd (by decide) z)
            refine jr_ic rfl ?_
            refine jr_iret rfl rfl (Nat.zero_le _) (Nat.zero_le _) ?_
            first
              | exact ⟨rfl, hRel0⟩
              | (exfalso; omega)
              | (exfalso; simp (disch := omega) only [Int32.lt_iff_toInt_lt, Int32.le_iff_toInt_le, ← Int32.toInt_inj, Int32.reduceToInt, nI_toInt] at c3 c2LedcanAsk m2MDisIn; done)
              | (exfalso; simp (disch := omega) only [Int32.lt_iff_toInt_lt, Int32.le_iff_toInt_le, ← Int32.toInt_inj, Int32.reduceToInt, nI_toInt] at c3 c2LedcanAsk m2MDisIn; omega)
          · refine jr_iload rfl rfl ?_
            refine jr_iload rfl rfl ?_
            refine jr_icmp_gt rfl (fun m5MDisIn => ?_) (fun m5MDisIn => ?_)
            · refine jr_ic rfl ?_
              refine jr_zret rfl rfl rfl (Nat.zero_le _) (Nat.zero_le _) ?_
              refine jr_if_eq rfl (fun _ => ?_) (fun z => absurd (by decide) z)
              refine jr_ic rfl ?_
              refine jr_iret rfl rfl (Nat.zero_le _) (Nat.zero_le _) ?_
              first
                | exact ⟨rfl, hRel0⟩
                | (exfalso; omega)
                | (exfalso; simp (disch := omega) only [Int32.lt_iff_toInt_lt, Int32.le_iff_toInt_le, ← Int32.toInt_inj, Int32.reduceToInt, nI_toInt] at c3 c2LedcanAsk m2MDisIn m5MDisIn; done)
                | (exfalso; simp (disch := omega) only [Int32.lt_iff_toInt_lt, Int32.le_iff_toInt_le, ← Int32.toInt_inj, Int32.reduceToInt, nI_toInt] at c3 c2LedcanAsk m2MDisIn m5MDisIn; omega)
            · refine jr_ic rfl ?_
              refine jr_goto rfl ?_
              refine jr_zret rfl rfl rfl (Nat.zero_le _) (Nat.zero_le _) ?_
              refine jr_if_eq rfl (fun z => absurd z (by decide)) (fun _ => ?_)
              refine jr_iload rfl rfl ?_
              refine jr_ic rfl ?_
              refine jr_iload rfl rfl ?_
              refine jr_ic rfl ?_
              refine jr_isub rfl ?_
              refine jr_cs3 (mc' := 0) (ms' := 0) rfl jm_MD_isIn_n jm_MD_isIn_f rfl rfl rfl rfl rfl (Nat.zero_le _) (Nat.zero_le _) ?_
              show jx_W (jm_MD_isIn, _, _, _, _, _, _) _ 0 0 0 [some _, some _, some _] [] _
              refine jr_iload rfl rfl ?_
              refine jr_iload rfl rfl ?_
              refine jr_icmp_lt rfl (fun m2MDisIn_2 => ?_) (fun m2MDisIn_2 => ?_)
              · refine jr_ic rfl ?_
                refine jr_zret rfl rfl rfl (Nat.zero_le _) (Nat.zero_le _) ?_
                refine jr_if_eq rfl (fun _ => ?_) (fun z => absurd (by decide) z)
                refine jr_ic rfl ?_
                refine jr_iret rfl rfl (Nat.zero_le _) (Nat.zero_le _) ?_
                first
                  | exact ⟨rfl, hRel0⟩
                  | (exfalso; omega)
                  | (exfalso; simp (disch := omega) only [Int32.lt_iff_toInt_lt, Int32.le_iff_toInt_le, ← Int32.toInt_inj, Int32.reduceToInt, nI_toInt] at c3 c2LedcanAsk m2MDisIn m5MDisIn m2MDisIn_2; done)
                  | (exfalso; simp (disch := omega) only [Int32.lt_iff_toInt_lt, Int32.le_iff_toInt_le, ← Int32.toInt_inj, Int32.reduceToInt, nI_toInt] at c3 c2LedcanAsk m2MDisIn m5MDisIn m2MDisIn_2; omega)
              · refine jr_iload rfl rfl ?_
                refine jr_iload rfl rfl ?_
                refine jr_icmp_gt rfl (fun m5MDisIn_2 => ?_) (fun m5MDisIn_2 => ?_)
                · refine jr_ic rfl ?_
                  refine jr_zret rfl rfl rfl (Nat.zero_le _) (Nat.zero_le _) ?_
                  refine jr_if_eq rfl (fun _ => ?_) (fun z => absurd (by decide) z)
                  refine jr_ic rfl ?_
                  refine jr_iret rfl rfl (Nat.zero_le _) (Nat.zero_le _) ?_
                  first
                    | exact ⟨rfl, hRel0⟩
                    | (exfalso; omega)
                    | (exfalso; simp (disch := omega) only [Int32.lt_iff_toInt_lt, Int32.le_iff_toInt_le, ← Int32.toInt_inj, Int32.reduceToInt, nI_toInt] at c3 c2LedcanAsk m2MDisIn m5MDisIn m2MDisIn_2 m5MDisIn_2; done)
                    | (exfalso; simp (disch := omega) only [Int32.lt_iff_toInt_lt, Int32.le_iff_toInt_le, ← Int32.toInt_inj, Int32.reduceToInt, nI_toInt] at c3 c2LedcanAsk m2MDisIn m5MDisIn m2MDisIn_2 m5MDisIn_2; omega)
                · refine jr_ic rfl ?_
                  refine jr_goto rfl ?_
                  refine jr_zret rfl rfl rfl (Nat.zero_le _) (Nat.zero_le _) ?_
                  refine jr_if_eq rfl (fun z => absurd z (by decide)) (fun _ => ?_)
                  refine jr_aload rfl rfl ?_
                  refine jr_cv0 (mc' := 0) (ms' := 0) rfl jm_MD_hasMonths_n jm_MD_hasMonths_f rfl rfl rfl rfl rfl rfl rfl (Nat.zero_le _) (Nat.zero_le _) ?_
                  show jx_W (jm_MD_hasMonths, _, _, _, _, _, _) _ 0 0 0 [some _] [] _
                  refine jr_aload rfl rfl ?_
                  refine jr_getR rfl rfl rfl rfl (Or.inl rfl) ?_
                  refine jr_aload rfl rfl ?_
                  refine jr_getI rfl rfl ?_
                  refine jr_iald (len := 2) rfl rfl hw.1 (by omega) ?_
                  refine jr_if_le rfl (fun m5MDhasMonths => ?_) (fun m5MDhasMonths => ?_)
                  · refine jr_ic rfl ?_
                    refine jr_zret rfl rfl rfl (Nat.zero_le _) (Nat.zero_le _) ?_
                    refine jr_if_ne rfl (fun z => absurd (by decide) z) (fun _ => ?_)
                    refine jr_ic rfl ?_
                    refine jr_iret rfl rfl (Nat.zero_le _) (Nat.zero_le _) ?_
                    first
                      | exact ⟨rfl, hRel0⟩
                      | (exfalso; omega)
                      | (exfalso; simp (disch := omega) only [Int32.lt_iff_toInt_lt, Int32.le_iff_toInt_le, ← Int32.toInt_inj, Int32.reduceToInt, nI_toInt] at c3 c2LedcanAsk m2MDisIn m5MDisIn m2MDisIn_2 m5MDisIn_2 m5MDhasMonths; done)
                      | (exfalso; simp (disch := omega) only [Int32.lt_iff_toInt_lt, Int32.le_iff_toInt_le, ← Int32.toInt_inj, Int32.reduceToInt, nI_toInt] at c3 c2LedcanAsk m2MDisIn m5MDisIn m2MDisIn_2 m5MDisIn_2 m5MDhasMonths; omega)
                  · refine jr_ic rfl ?_
                    refine jr_goto rfl ?_
                    refine jr_zret rfl rfl rfl (Nat.zero_le _) (Nat.zero_le _) ?_
                    refine jr_if_ne rfl (fun _ => ?_) (fun z => absurd z (by decide))
                    refine jr_aload rfl rfl ?_
                    refine jr_iload rfl rfl ?_
                    refine jr_iload rfl rfl ?_
                    refine jr_cv2 (mc' := 0) (ms' := 0) rfl jm_MD_countRows_n jm_MD_countRows_f rfl rfl rfl rfl rfl rfl rfl (Nat.zero_le _) (Nat.zero_le _) ?_
                    refine eM_rowsV (kk := w) hw hn0n hi e1 e3 e4 (fun S5 v5 hS5 hv5 => ?_)
                    refine jr_ist5 rfl rfl ?_
                    refine jr_iload rfl rfl ?_
                    refine jr_ic rfl ?_
                    refine jr_icmp_ge rfl (fun m24 => ?_) (fun m24 => ?_)
                    · refine jr_iload rfl rfl ?_
                      refine jr_if_eq rfl (fun m32 => ?_) (fun m32 => ?_)
                      · refine jr_aload rfl rfl ?_
                        refine jr_getR rfl rfl rfl rfl (Or.inl rfl) ?_
                        refine jr_iload rfl rfl ?_
                        refine jr_iald (len := 5) rfl rfl rfl (by omega) ?_
                        refine jr_iret rfl rfl (Nat.zero_le _) (Nat.zero_le _) ?_
                        first
                          | exact ⟨rfl, hRel0⟩
                          | (exfalso; omega)
                          | (exfalso; simp (disch := omega) only [Int32.lt_iff_toInt_lt, Int32.le_iff_toInt_le, ← Int32.toInt_inj, Int32.reduceToInt, nI_toInt] at c3 c2LedcanAsk m2MDisIn m5MDisIn m2MDisIn_2 m5MDisIn_2 m5MDhasMonths m24 m32; done)
                          | (exfalso; simp (disch := omega) only [Int32.lt_iff_toInt_lt, Int32.le_iff_toInt_le, ← Int32.toInt_inj, Int32.reduceToInt, nI_toInt] at c3 c2LedcanAsk m2MDisIn m5MDisIn m2MDisIn_2 m5MDisIn_2 m5MDhasMonths m24 m32; omega)
                      · refine jr_aload rfl rfl ?_
                        refine jr_getR rfl rfl rfl rfl (Or.inl rfl) ?_
                        refine jr_iload rfl rfl ?_
                        refine jr_iald (len := 5) rfl rfl rfl (by omega) ?_
                        refine jr_goto rfl ?_
                        refine jr_iret rfl rfl (Nat.zero_le _) (Nat.zero_le _) ?_
                        first
                          | exact ⟨rfl, hRel0⟩
                          | (exfalso; omega)
                          | (exfalso; simp (disch := omega) only [Int32.lt_iff_toInt_lt, Int32.le_iff_toInt_le, ← Int32.toInt_inj, Int32.reduceToInt, nI_toInt] at c3 c2LedcanAsk m2MDisIn m5MDisIn m2MDisIn_2 m5MDisIn_2 m5MDhasMonths m24 m32; done)
                          | (exfalso; simp (disch := omega) only [Int32.lt_iff_toInt_lt, Int32.le_iff_toInt_le, ← Int32.toInt_inj, Int32.reduceToInt, nI_toInt] at c3 c2LedcanAsk m2MDisIn m5MDisIn m2MDisIn_2 m5MDisIn_2 m5MDhasMonths m24 m32; omega)
                    · refine jr_iload rfl rfl ?_
                      refine jr_if_ne rfl (fun m26 => ?_) (fun m26 => ?_)
                      · refine jr_ic rfl ?_
                        refine jr_iret rfl rfl (Nat.zero_le _) (Nat.zero_le _) ?_
                        first
                          | exact ⟨rfl, hRel0⟩
                          | (exfalso; omega)
                          | (exfalso; simp (disch := omega) only [Int32.lt_iff_toInt_lt, Int32.le_iff_toInt_le, ← Int32.toInt_inj, Int32.reduceToInt, nI_toInt] at c3 c2LedcanAsk m2MDisIn m5MDisIn m2MDisIn_2 m5MDisIn_2 m5MDhasMonths m24 m26; done)
                          | (exfalso; simp (disch := omega) only [Int32.lt_iff_toInt_lt, Int32.le_iff_toInt_le, ← Int32.toInt_inj, Int32.reduceToInt, nI_toInt] at c3 c2LedcanAsk m2MDisIn m5MDisIn m2MDisIn_2 m5MDisIn_2 m5MDhasMonths m24 m26; omega)
                      · refine jr_ic rfl ?_
                        refine jr_goto rfl ?_
                        refine jr_iret rfl rfl (Nat.zero_le _) (Nat.zero_le _) ?_
                        first
                          | exact ⟨rfl, hRel0⟩
                          | (exfalso; omega)
                          | (exfalso; simp (disch := omega) only [Int32.lt_iff_toInt_lt, Int32.le_iff_toInt_le, ← Int32.toInt_inj, Int32.reduceToInt, nI_toInt] at c3 c2LedcanAsk m2MDisIn m5MDisIn m2MDisIn_2 m5MDisIn_2 m5MDhasMonths m24 m26; done)
                          | (exfalso; simp (disch := omega) only [Int32.lt_iff_toInt_lt, Int32.le_iff_toInt_le, ← Int32.toInt_inj, Int32.reduceToInt, nI_toInt] at c3 c2LedcanAsk m2MDisIn m5MDisIn m2MDisIn_2 m5MDisIn_2 m5MDhasMonths m24 m26; omega)
        · refine jr_iload rfl rfl ?_
          refine jr_ic rfl ?_
          refine jr_icmp_gt rfl (fun c5LedcanAsk => ?_) (fun c5LedcanAsk => ?_)
          · refine jr_ic rfl ?_
            refine jr_zret rfl rfl rfl (Nat.zero_le _) (Nat.zero_le _) ?_
            refine jr_if_eq rfl (fun _ => ?_) (fun z => absurd (by decide) z)
            refine jr_ic rfl ?_
            refine jr_iret rfl rfl (Nat.zero_le _) (Nat.zero_le _) ?_
            show jx_W (jm_MD_known, d + 40, 0, 0, false, 1, _) _ 0 0 0 [some _, some _, some _, some _, some _, none] [] _
            refine jr_iload rfl rfl ?_
            refine jr_ic rfl ?_
            refine jr_ic rfl ?_
            refine jr_cs3 (mc' := 0) (ms' := 0) rfl jm_MD_isIn_n jm_MD_isIn_f rfl rfl rfl rfl rfl (Nat.zero_le _) (Nat.zero_le _) ?_
            show jx_W (jm_MD_isIn, _, _, _, _, _, _) _ 0 0 0 [some _, some _, some _] [] _
            refine jr_iload rfl rfl ?_
            refine jr_iload rfl rfl ?_
            refine jr_icmp_lt rfl (fun m2MDisIn => ?_) (fun m2MDisIn => ?_)
            · refine jr_ic rfl ?_
              refine jr_zret rfl rfl rfl (Nat.zero_le _) (Nat.zero_le _) ?_
              refine jr_if_eq rfl (fun _ => ?_) (fun z => absurd (by decide) z)
              refine jr_ic rfl ?_
              refine jr_iret rfl rfl (Nat.zero_le _) (Nat.zero_le _) ?_
              first
                | exact ⟨rfl, hRel0⟩
                | (exfalso; omega)
                | (exfalso; simp (disch := omega) only [Int32.lt_iff_toInt_lt, Int32.le_iff_toInt_le, ← Int32.toInt_inj, Int32.reduceToInt, nI_toInt] at c3 c2LedcanAsk c5LedcanAsk m2MDisIn; done)
                | (exfalso; simp (disch := omega) only [Int32.lt_iff_toInt_lt, Int32.le_iff_toInt_le, ← Int32.toInt_inj, Int32.reduceToInt, nI_toInt] at c3 c2LedcanAsk c5LedcanAsk m2MDisIn; omega)
            · refine jr_iload rfl rfl ?_
              refine jr_iload rfl rfl ?_
              refine jr_icmp_gt rfl (fun m5MDisIn => ?_) (fun m5MDisIn => ?_)
              · refine jr_ic rfl ?_
                refine jr_zret rfl rfl rfl (Nat.zero_le _) (Nat.zero_le _) ?_
                refine jr_if_eq rfl (fun _ => ?_) (fun z => absurd (by decide) z)
                refine jr_ic rfl ?_
                refine jr_iret rfl rfl (Nat.zero_le _) (Nat.zero_le _) ?_
                first
                  | exact ⟨rfl, hRel0⟩
                  | (exfalso; omega)
                  | (exfalso; simp (disch := omega) only [Int32.lt_iff_toInt_lt, Int32.le_iff_toInt_le, ← Int32.toInt_inj, Int32.reduceToInt, nI_toInt] at c3 c2LedcanAsk c5LedcanAsk m2MDisIn m5MDisIn; done)
                  | (exfalso; simp (disch := omega) only [Int32.lt_iff_toInt_lt, Int32.le_iff_toInt_le, ← Int32.toInt_inj, Int32.reduceToInt, nI_toInt] at c3 c2LedcanAsk c5LedcanAsk m2MDisIn m5MDisIn; omega)
              · refine jr_ic rfl ?_
                refine jr_goto rfl ?_
                refine jr_zret rfl rfl rfl (Nat.zero_le _) (Nat.zero_le _) ?_
                refine jr_if_eq rfl (fun z => absurd z (by decide)) (fun _ => ?_)
                refine jr_iload rfl rfl ?_
                refine jr_ic rfl ?_
                refine jr_iload rfl rfl ?_
                refine jr_ic rfl ?_
                refine jr_isub rfl ?_
                refine jr_cs3 (mc' := 0) (ms' := 0) rfl jm_MD_isIn_n jm_MD_isIn_f rfl rfl rfl rfl rfl (Nat.zero_le _) (Nat.zero_le _) ?_
                show jx_W (jm_MD_isIn, _, _, _, _, _, _) _ 0 0 0 [some _, some _, some _] [] _
                refine jr_iload rfl rfl ?_
                refine jr_iload rfl rfl ?_
                refine jr_icmp_lt rfl (fun m2MDisIn_2 => ?_) (fun m2MDisIn_2 => ?_)
                · refine jr_ic rfl ?_
                  refine jr_zret rfl rfl rfl (Nat.zero_le _) (Nat.zero_le _) ?_
                  refine jr_if_eq rfl (fun _ => ?_) (fun z => absurd (by decide) z)
                  refine jr_ic rfl ?_
                  refine jr_iret rfl rfl (Nat.zero_le _) (Nat.zero_le _) ?_
                  first
                    | exact ⟨rfl, hRel0⟩
                    | (exfalso; omega)
                    | (exfalso; simp (disch := omega) only [Int32.lt_iff_toInt_lt, Int32.le_iff_toInt_le, ← Int32.toInt_inj, Int32.reduceToInt, nI_toInt] at c3 c2LedcanAsk c5LedcanAsk m2MDisIn m5MDisIn m2MDisIn_2; done)
                    | (exfalso; simp (disch := omega) only [Int32.lt_iff_toInt_lt, Int32.le_iff_toInt_le, ← Int32.toInt_inj, Int32.reduceToInt, nI_toInt] at c3 c2LedcanAsk c5LedcanAsk m2MDisIn m5MDisIn m2MDisIn_2; omega)
                · refine jr_iload rfl rfl ?_
                  refine jr_iload rfl rfl ?_
                  refine jr_icmp_gt rfl (fun m5MDisIn_2 => ?_) (fun m5MDisIn_2 => ?_)
                  · refine jr_ic rfl ?_
                    refine jr_zret rfl rfl rfl (Nat.zero_le _) (Nat.zero_le _) ?_
                    refine jr_if_eq rfl (fun _ => ?_) (fun z => absurd (by decide) z)
                    refine jr_ic rfl ?_
                    refine jr_iret rfl rfl (Nat.zero_le _) (Nat.zero_le _) ?_
                    first
                      | exact ⟨rfl, hRel0⟩
                      | (exfalso; omega)
                      | (exfalso; simp (disch := omega) only [Int32.lt_iff_toInt_lt, Int32.le_iff_toInt_le, ← Int32.toInt_inj, Int32.reduceToInt, nI_toInt] at c3 c2LedcanAsk c5LedcanAsk m2MDisIn m5MDisIn m2MDisIn_2 m5MDisIn_2; done)
                      | (exfalso; simp (disch := omega) only [Int32.lt_iff_toInt_lt, Int32.le_iff_toInt_le, ← Int32.toInt_inj, Int32.reduceToInt, nI_toInt] at c3 c2LedcanAsk c5LedcanAsk m2MDisIn m5MDisIn m2MDisIn_2 m5MDisIn_2; omega)
                  · refine jr_ic rfl ?_
                    refine jr_goto rfl ?_
                    refine jr_zret rfl rfl rfl (Nat.zero_le _) (Nat.zero_le _) ?_
                    refine jr_if_eq rfl (fun z => absurd z (by decide)) (fun _ => ?_)
                    refine jr_aload rfl rfl ?_
                    refine jr_cv0 (mc' := 0) (ms' := 0) rfl jm_MD_hasMonths_n jm_MD_hasMonths_f rfl rfl rfl rfl rfl rfl rfl (Nat.zero_le _) (Nat.zero_le _) ?_
                    show jx_W (jm_MD_hasMonths, _, _, _, _, _, _) _ 0 0 0 [some _] [] _
                    refine jr_aload rfl rfl ?_
                    refine jr_getR rfl rfl rfl rfl (Or.inl rfl) ?_
                    refine jr_aload rfl rfl ?_
                    refine jr_getI rfl rfl ?_
                    refine jr_iald (len := 2) rfl rfl hw.1 (by omega) ?_
                    refine jr_if_le rfl (fun m5MDhasMonths => ?_) (fun m5MDhasMonths => ?_)
                    · refine jr_ic rfl ?_
                      refine jr_zret rfl rfl rfl (Nat.zero_le _) (Nat.zero_le _) ?_
                      refine jr_if_ne rfl (fun z => absurd (by decide) z) (fun _ => ?_)
                      refine jr_ic rfl ?_
                      refine jr_iret rfl rfl (Nat.zero_le _) (Nat.zero_le _) ?_
                      first
                        | exact ⟨rfl, hRel0⟩
                        | (exfalso; omega)
                        | (exfalso; simp (disch := omega) only [Int32.lt_iff_toInt_lt, Int32.le_iff_toInt_le, ← Int32.toInt_inj, Int32.reduceToInt, nI_toInt] at c3 c2LedcanAsk c5LedcanAsk m2MDisIn m5MDisIn m2MDisIn_2 m5MDisIn_2 m5MDhasMonths; done)
                        | (exfalso; simp (disch := omega) only [Int32.lt_iff_toInt_lt, Int32.le_iff_toInt_le, ← Int32.toInt_inj, Int32.reduceToInt, nI_toInt] at c3 c2LedcanAsk c5LedcanAsk m2MDisIn m5MDisIn m2MDisIn_2 m5MDisIn_2 m5MDhasMonths; omega)
                    · refine jr_ic rfl ?_
                      refine jr_goto rfl ?_
                      refine jr_zret rfl rfl rfl (Nat.zero_le _) (Nat.zero_le _) ?_
                      refine jr_if_ne rfl (fun _ => ?_) (fun z => absurd z (by decide))
                      refine jr_aload rfl rfl ?_
                      refine jr_iload rfl rfl ?_
                      refine jr_iload rfl rfl ?_
                      refine jr_cv2 (mc' := 0) (ms' := 0) rfl jm_MD_countRows_n jm_MD_countRows_f rfl rfl rfl rfl rfl rfl rfl (Nat.zero_le _) (Nat.zero_le _) ?_
                      refine eM_rowsV (kk := w) hw hn0n hi e1 e3 e4 (fun S5 v5 hS5 hv5 => ?_)
                      refine jr_ist5 rfl rfl ?_
                      refine jr_iload rfl rfl ?_
                      refine jr_ic rfl ?_
                      refine jr_icmp_ge rfl (fun m24 => ?_) (fun m24 => ?_)
                      · refine jr_iload rfl rfl ?_
                        refine jr_if_eq rfl (fun m32 => ?_) (fun m32 => ?_)
                        · refine jr_aload rfl rfl ?_
                          refine jr_getR rfl rfl rfl rfl (Or.inl rfl) ?_
                          refine jr_iload rfl rfl ?_
                          refine jr_iald (len := 5) rfl rfl rfl (by omega) ?_
                          refine jr_iret rfl rfl (Nat.zero_le _) (Nat.zero_le _) ?_
                          first
                            | exact ⟨rfl, hRel0⟩
                            | (exfalso; omega)
                            | (exfalso; simp (disch := omega) only [Int32.lt_iff_toInt_lt, Int32.le_iff_toInt_le, ← Int32.toInt_inj, Int32.reduceToInt, nI_toInt] at c3 c2LedcanAsk c5LedcanAsk m2MDisIn m5MDisIn m2MDisIn_2 m5MDisIn_2 m5MDhasMonths m24 m32; done)
                            | (exfalso; simp (disch := omega) only [Int32.lt_iff_toInt_lt, Int32.le_iff_toInt_le, ← Int32.toInt_inj, Int32.reduceToInt, nI_toInt] at c3 c2LedcanAsk c5LedcanAsk m2MDisIn m5MDisIn m2MDisIn_2 m5MDisIn_2 m5MDhasMonths m24 m32; omega)
                        · refine jr_aload rfl rfl ?_
                          refine jr_getR rfl rfl rfl rfl (Or.inl rfl) ?_
                          refine jr_iload rfl rfl ?_
                          refine jr_iald (len := 5) rfl rfl rfl (by omega) ?_
                          refine jr_goto rfl ?_
                          refine jr_iret rfl rfl (Nat.zero_le _) (Nat.zero_le _) ?_
                          first
                            | exact ⟨rfl, hRel0⟩
                            | (exfalso; omega)
                            | (exfalso; simp (disch := omega) only [Int32.lt_iff_toInt_lt, Int32.le_iff_toInt_le, ← Int32.toInt_inj, Int32.reduceToInt, nI_toInt] at c3 c2LedcanAsk c5LedcanAsk m2MDisIn m5MDisIn m2MDisIn_2 m5MDisIn_2 m5MDhasMonths m24 m32; done)
                            | (exfalso; simp (disch := omega) only [Int32.lt_iff_toInt_lt, Int32.le_iff_toInt_le, ← Int32.toInt_inj, Int32.reduceToInt, nI_toInt] at c3 c2LedcanAsk c5LedcanAsk m2MDisIn m5MDisIn m2MDisIn_2 m5MDisIn_2 m5MDhasMonths m24 m32; omega)
                      · refine jr_iload rfl rfl ?_
                        refine jr_if_ne rfl (fun m26 => ?_) (fun m26 => ?_)
                        · refine jr_ic rfl ?_
                          refine jr_iret rfl rfl (Nat.zero_le _) (Nat.zero_le _) ?_
                          first
                            | exact ⟨rfl, hRel0⟩
                            | (exfalso; omega)
                            | (exfalso; simp (disch := omega) only [Int32.lt_iff_toInt_lt, Int32.le_iff_toInt_le, ← Int32.toInt_inj, Int32.reduceToInt, nI_toInt] at c3 c2LedcanAsk c5LedcanAsk m2MDisIn m5MDisIn m2MDisIn_2 m5MDisIn_2 m5MDhasMonths m24 m26; done)
                            | (exfalso; simp (disch := omega) only [Int32.lt_iff_toInt_lt, Int32.le_iff_toInt_le, ← Int32.toInt_inj, Int32.reduceToInt, nI_toInt] at c3 c2LedcanAsk c5LedcanAsk m2MDisIn m5MDisIn m2MDisIn_2 m5MDisIn_2 m5MDhasMonths m24 m26; omega)
                        · refine jr_ic rfl ?_
                          refine jr_goto rfl ?_
                          refine jr_iret rfl rfl (Nat.zero_le _) (Nat.zero_le _) ?_
                          first
                            | exact ⟨rfl, hRel0⟩
                            | (exfalso; omega)
                            | (exfalso; simp (disch := omega) only [Int32.lt_iff_toInt_lt, Int32.le_iff_toInt_le, ← Int32.toInt_inj, Int32.reduceToInt, nI_toInt] at c3 c2LedcanAsk c5LedcanAsk m2MDisIn m5MDisIn m2MDisIn_2 m5MDisIn_2 m5MDhasMonths m24 m26; done)
                            | (exfalso; simp (disch := omega) only [Int32.lt_iff_toInt_lt, Int32.le_iff_toInt_le, ← Int32.toInt_inj, Int32.reduceToInt, nI_toInt] at c3 c2LedcanAsk c5LedcanAsk m2MDisIn m5MDisIn m2MDisIn_2 m5MDisIn_2 m5MDhasMonths m24 m26; omega)
          · refine jr_ic rfl ?_
            refine jr_goto rfl ?_
            refine jr_zret rfl rfl rfl (Nat.zero_le _) (Nat.zero_le _) ?_
            refine jr_if_eq rfl (fun z => absurd z (by decide)) (fun _ => ?_)
            refine jr_iload rfl rfl ?_
            refine jr_if_lt rfl (fun c10 => ?_) (fun c10 => ?_)
            · refine jr_ic rfl ?_
              refine jr_iret rfl rfl (Nat.zero_le _) (Nat.zero_le _) ?_
              show jx_W (jm_MD_known, d + 40, 0, 0, false, 1, _) _ 0 0 0 [some _, some _, some _, some _, some _, none] [] _
              refine jr_iload rfl rfl ?_
              refine jr_ic rfl ?_
              refine jr_ic rfl ?_
              refine jr_cs3 (mc' := 0) (ms' := 0) rfl jm_MD_isIn_n jm_MD_isIn_f rfl rfl rfl rfl rfl (Nat.zero_le _) (Nat.zero_le _) ?_
              show jx_W (jm_MD_isIn, _, _, _, _, _, _) _ 0 0 0 [some _, some _, some _] [] _
              refine jr_iload rfl rfl ?_
              refine jr_iload rfl rfl ?_
              refine jr_icmp_lt rfl (fun m2MDisIn => ?_) (fun m2MDisIn => ?_)
              · refine jr_ic rfl ?_
                refine jr_zret rfl rfl rfl (Nat.zero_le _) (Nat.zero_le _) ?_
                refine jr_if_eq rfl (fun _ => ?_) (fun z => absurd (by decide) z)
                refine jr_ic rfl ?_
                refine jr_iret rfl rfl (Nat.zero_le _) (Nat.zero_le _) ?_
                first
                  | exact ⟨rfl, hRel0⟩
                  | (exfalso; omega)
                  | (exfalso; simp (disch := omega) only [Int32.lt_iff_toInt_lt, Int32.le_iff_toInt_le, ← Int32.toInt_inj, Int32.reduceToInt, nI_toInt] at c3 c2LedcanAsk c5LedcanAsk c10 m2MDisIn; done)
                  | (exfalso; simp (disch := omega) only [Int32.lt_iff_toInt_lt, Int32.le_iff_toInt_le, ← Int32.toInt_inj, Int32.reduceToInt, nI_toInt] at c3 c2LedcanAsk c5LedcanAsk c10 m2MDisIn; omega)
              · refine jr_iload rfl rfl ?_
                refine jr_iload rfl rfl ?_
                refine jr_icmp_gt rfl (fun m5MDisIn => ?_) (fun m5MDisIn => ?_)
                · refine jr_ic rfl ?_
                  refine jr_zret rfl rfl rfl (Nat.zero_le _) (Nat.zero_le _) ?_
                  refine jr_if_eq rfl (fun _ => ?_) (fun z => absurd (by decide) z)
                  refine jr_ic rfl ?_
                  refine jr_iret rfl rfl (Nat.zero_le _) (Nat.zero_le _) ?_
                  first
                    | exact ⟨rfl, hRel0⟩
                    | (exfalso; omega)
                    | (exfalso; simp (disch := omega) only [Int32.lt_iff_toInt_lt, Int32.le_iff_toInt_le, ← Int32.toInt_inj, Int32.reduceToInt, nI_toInt] at c3 c2LedcanAsk c5LedcanAsk c10 m2MDisIn m5MDisIn; done)
                    | (exfalso; simp (disch := omega) only [Int32.lt_iff_toInt_lt, Int32.le_iff_toInt_le, ← Int32.toInt_inj, Int32.reduceToInt, nI_toInt] at c3 c2LedcanAsk c5LedcanAsk c10 m2MDisIn m5MDisIn; omega)
                · refine jr_ic rfl ?_
                  refine jr_goto rfl ?_
                  refine jr_zret rfl rfl rfl (Nat.zero_le _) (Nat.zero_le _) ?_
                  refine jr_if_eq rfl (fun z => absurd z (by decide)) (fun _ => ?_)
                  refine jr_iload rfl rfl ?_
                  refine jr_ic rfl ?_
                  refine jr_iload rfl rfl ?_
                  refine jr_ic rfl ?_
                  refine jr_isub rfl ?_
                  refine jr_cs3 (mc' := 0) (ms' := 0) rfl jm_MD_isIn_n jm_MD_isIn_f rfl rfl rfl rfl rfl (Nat.zero_le _) (Nat.zero_le _) ?_
                  show jx_W (jm_MD_isIn, _, _, _, _, _, _) _ 0 0 0 [some _, some _, some _] [] _
                  refine jr_iload rfl rfl ?_
                  refine jr_iload rfl rfl ?_
                  refine jr_icmp_lt rfl (fun m2MDisIn_2 => ?_) (fun m2MDisIn_2 => ?_)
                  · refine jr_ic rfl ?_
                    refine jr_zret rfl rfl rfl (Nat.zero_le _) (Nat.zero_le _) ?_
                    refine jr_if_eq rfl (fun _ => ?_) (fun z => absurd (by decide) z)
                    refine jr_ic rfl ?_
                    refine jr_iret rfl rfl (Nat.zero_le _) (Nat.zero_le _) ?_
                    first
                      | exact ⟨rfl, hRel0⟩
                      | (exfalso; omega)
                      | (exfalso; simp (disch := omega) only [Int32.lt_iff_toInt_lt, Int32.le_iff_toInt_le, ← Int32.toInt_inj, Int32.reduceToInt, nI_toInt] at c3 c2LedcanAsk c5LedcanAsk c10 m2MDisIn m5MDisIn m2MDisIn_2; done)
                      | (exfalso; simp (disch := omega) only [Int32.lt_iff_toInt_lt, Int32.le_iff_toInt_le, ← Int32.toInt_inj, Int32.reduceToInt, nI_toInt] at c3 c2LedcanAsk c5LedcanAsk c10 m2MDisIn m5MDisIn m2MDisIn_2; omega)
                  · refine jr_iload rfl rfl ?_
                    refine jr_iload rfl rfl ?_
                    refine jr_icmp_gt rfl (fun m5MDisIn_2 => ?_) (fun m5MDisIn_2 => ?_)
                    · refine jr_ic rfl ?_
                      refine jr_zret rfl rfl rfl (Nat.zero_le _) (Nat.zero_le _) ?_
                      refine jr_if_eq rfl (fun _ => ?_) (fun z => absurd (by decide) z)
                      refine jr_ic rfl ?_
                      refine jr_iret rfl rfl (Nat.zero_le _) (Nat.zero_le _) ?_
                      first
                        | exact ⟨rfl, hRel0⟩
                        | (exfalso; omega)
                        | (exfalso; simp (disch := omega) only [Int32.lt_iff_toInt_lt, Int32.le_iff_toInt_le, ← Int32.toInt_inj, Int32.reduceToInt, nI_toInt] at c3 c2LedcanAsk c5LedcanAsk c10 m2MDisIn m5MDisIn m2MDisIn_2 m5MDisIn_2; done)
                        | (exfalso; simp (disch := omega) only [Int32.lt_iff_toInt_lt, Int32.le_iff_toInt_le, ← Int32.toInt_inj, Int32.reduceToInt, nI_toInt] at c3 c2LedcanAsk c5LedcanAsk c10 m2MDisIn m5MDisIn m2MDisIn_2 m5MDisIn_2; omega)
                    · refine jr_ic rfl ?_
                      refine jr_goto rfl ?_
                      refine jr_zret rfl rfl rfl (Nat.zero_le _) (Nat.zero_le _) ?_
                      refine jr_if_eq rfl (fun z => absurd z (by decide)) (fun _ => ?_)
                      refine jr_aload rfl rfl ?_
                      refine jr_cv0 (mc' := 0) (ms' := 0) rfl jm_MD_hasMonths_n jm_MD_hasMonths_f rfl rfl rfl rfl rfl rfl rfl (Nat.zero_le _) (Nat.zero_le _) ?_
                      show jx_W (jm_MD_hasMonths, _, _, _, _, _, _) _ 0 0 0 [some _] [] _
                      refine jr_aload rfl rfl ?_
                      refine jr_getR rfl rfl rfl rfl (Or.inl rfl) ?_
                      refine jr_aload rfl rfl ?_
                      refine jr_getI rfl rfl ?_
                      refine jr_iald (len := 2) rfl rfl hw.1 (by omega) ?_
                      refine jr_if_le rfl (fun m5MDhasMonths => ?_) (fun m5MDhasMonths => ?_)
                      · refine jr_ic rfl ?_
                        refine jr_zret rfl rfl rfl (Nat.zero_le _) (Nat.zero_le _) ?_
                        refine jr_if_ne rfl (fun z => absurd (by decide) z) (fun _ => ?_)
                        refine jr_ic rfl ?_
                        refine jr_iret rfl rfl (Nat.zero_le _) (Nat.zero_le _) ?_
                        first
                          | exact ⟨rfl, hRel0⟩
                          | (exfalso; omega)
                          | (exfalso; simp (disch := omega) only [Int32.lt_iff_toInt_lt, Int32.le_iff_toInt_le, ← Int32.toInt_inj, Int32.reduceToInt, nI_toInt] at c3 c2LedcanAsk c5LedcanAsk c10 m2MDisIn m5MDisIn m2MDisIn_2 m5MDisIn_2 m5MDhasMonths; done)
                          | (exfalso; simp (disch := omega) only [Int32.lt_iff_toInt_lt, Int32.le_iff_toInt_le, ← Int32.toInt_inj, Int32.reduceToInt, nI_toInt] at c3 c2LedcanAsk c5LedcanAsk c10 m2MDisIn m5MDisIn m2MDisIn_2 m5MDisIn_2 m5MDhasMonths; omega)
                      · refine jr_ic rfl ?_
                        refine jr_goto rfl ?_
                        refine jr_zret rfl rfl rfl (Nat.zero_le _) (Nat.zero_le _) ?_
                        refine jr_if_ne rfl (fun _ => ?_) (fun z => absurd z (by decide))
                        refine jr_aload rfl rfl ?_
                        refine jr_iload rfl rfl ?_
                        refine jr_iload rfl rfl ?_
                        refine jr_cv2 (mc' := 0) (ms' := 0) rfl jm_MD_countRows_n jm_MD_countRows_f rfl rfl rfl rfl rfl rfl rfl (Nat.zero_le _) (Nat.zero_le _) ?_
                        refine eM_rowsV (kk := w) hw hn0n hi e1 e3 e4 (fun S5 v5 hS5 hv5 => ?_)
                        refine jr_ist5 rfl rfl ?_
                        refine jr_iload rfl rfl ?_
                        refine jr_ic rfl ?_
                        refine jr_icmp_ge rfl (fun m24 => ?_) (fun m24 => ?_)
                        · refine jr_iload rfl rfl ?_
                          refine jr_if_eq rfl (fun m32 => ?_) (fun m32 => ?_)
                          · refine jr_aload rfl rfl ?_
                            refine jr_getR rfl rfl rfl rfl (Or.inl rfl) ?_
                            refine jr_iload rfl rfl ?_
                            refine jr_iald (len := 5) rfl rfl rfl (by omega) ?_
                            refine jr_iret rfl rfl (Nat.zero_le _) (Nat.zero_le _) ?_
                            first
                              | exact ⟨rfl, hRel0⟩
                              | (exfalso; omega)
                              | (exfalso; simp (disch := omega) only [Int32.lt_iff_toInt_lt, Int32.le_iff_toInt_le, ← Int32.toInt_inj, Int32.reduceToInt, nI_toInt] at c3 c2LedcanAsk c5LedcanAsk c10 m2MDisIn m5MDisIn m2MDisIn_2 m5MDisIn_2 m5MDhasMonths m24 m32; done)
                              | (exfalso; simp (disch := omega) only [Int32.lt_iff_toInt_lt, Int32.le_iff_toInt_le, ← Int32.toInt_inj, Int32.reduceToInt, nI_toInt] at c3 c2LedcanAsk c5LedcanAsk c10 m2MDisIn m5MDisIn m2MDisIn_2 m5MDisIn_2 m5MDhasMonths m24 m32; omega)
                          · refine jr_aload rfl rfl ?_
                            refine jr_getR rfl rfl rfl rfl (Or.inl rfl) ?_
                            refine jr_iload rfl rfl ?_
                            refine jr_iald (len := 5) rfl rfl rfl (by omega) ?_
                            refine jr_goto rfl ?_
                            refine jr_iret rfl rfl (Nat.zero_le _) (Nat.zero_le _) ?_
                            first
                              | exact ⟨rfl, hRel0⟩
                              | (exfalso; omega)
                              | (exfalso; simp (disch := omega) only [Int32.lt_iff_toInt_lt, Int32.le_iff_toInt_le, ← Int32.toInt_inj, Int32.reduceToInt, nI_toInt] at c3 c2LedcanAsk c5LedcanAsk c10 m2MDisIn m5MDisIn m2MDisIn_2 m5MDisIn_2 m5MDhasMonths m24 m32; done)
                              | (exfalso; simp (disch := omega) only [Int32.lt_iff_toInt_lt, Int32.le_iff_toInt_le, ← Int32.toInt_inj, Int32.reduceToInt, nI_toInt] at c3 c2LedcanAsk c5LedcanAsk c10 m2MDisIn m5MDisIn m2MDisIn_2 m5MDisIn_2 m5MDhasMonths m24 m32; omega)
                        · refine jr_iload rfl rfl ?_
                          refine jr_if_ne rfl (fun m26 => ?_) (fun m26 => ?_)
                          · refine jr_ic rfl ?_
                            refine jr_iret rfl rfl (Nat.zero_le _) (Nat.zero_le _) ?_
                            first
                              | exact ⟨rfl, hRel0⟩
                              | (exfalso; omega)
                              | (exfalso; simp (disch := omega) only [Int32.lt_iff_toInt_lt, Int32.le_iff_toInt_le, ← Int32.toInt_inj, Int32.reduceToInt, nI_toInt] at c3 c2LedcanAsk c5LedcanAsk c10 m2MDisIn m5MDisIn m2MDisIn_2 m5MDisIn_2 m5MDhasMonths m24 m26; done)
                              | (exfalso; simp (disch := omega) only [Int32.lt_iff_toInt_lt, Int32.le_iff_toInt_le, ← Int32.toInt_inj, Int32.reduceToInt, nI_toInt] at c3 c2LedcanAsk c5LedcanAsk c10 m2MDisIn m5MDisIn m2MDisIn_2 m5MDisIn_2 m5MDhasMonths m24 m26; omega)
                          · refine jr_ic rfl ?_
                            refine jr_goto rfl ?_
                            refine jr_iret rfl rfl (Nat.zero_le _) (Nat.zero_le _) ?_
                            first
                              | exact ⟨rfl, hRel0⟩
                              | (exfalso; omega)
                              | (exfalso; simp (disch := omega) only [Int32.lt_iff_toInt_lt, Int32.le_iff_toInt_le, ← Int32.toInt_inj, Int32.reduceToInt, nI_toInt] at c3 c2LedcanAsk c5LedcanAsk c10 m2MDisIn m5MDisIn m2MDisIn_2 m5MDisIn_2 m5MDhasMonths m24 m26; done)
                              | (exfalso; simp (disch := omega) only [Int32.lt_iff_toInt_lt, Int32.le_iff_toInt_le, ← Int32.toInt_inj, Int32.reduceToInt, nI_toInt] at c3 c2LedcanAsk c5LedcanAsk c10 m2MDisIn m5MDisIn m2MDisIn_2 m5MDisIn_2 m5MDhasMonths m24 m26; omega)
            · refine jr_iload rfl rfl ?_
              refine jr_iload rfl rfl ?_
              refine jr_icmp_lt rfl (fun c13 => ?_) (fun c13 => ?_)
              · refine jr_aload rfl rfl ?_
                refine jr_getR rfl rfl rfl rfl (Or.inl rfl) ?_
                refine jr_aload rfl rfl ?_
                refine jr_getM rfl rfl rfl rfl hto ?_
                refine jr_iload rfl rfl ?_
                refine jr_iload rfl rfl ?_
                refine jr_cv3 (mc' := 0) (ms' := 0) rfl jm_Led_rows_n jm_Led_rows_f rfl rfl rfl rfl rfl rfl rfl (Nat.zero_le _) (Nat.zero_le _) ?_
                refine ev_rowsV (kk := w) hw hR hn0n hi1 hi e1 e2 e4 (fun S1 v f1 hv => ?_)
                refine jr_ist5 rfl rfl ?_
                refine jr_iload rfl rfl ?_
                refine jr_ic rfl ?_
                refine jr_icmp_ne rfl (fun c26 => ?_) (fun c26 => ?_)
                · refine jr_iload rfl rfl ?_
                  refine jr_if_ne rfl (fun c30 => ?_) (fun c30 => ?_)
                  · refine jr_aload rfl rfl ?_
                    refine jr_getR rfl rfl rfl rfl (Or.inl rfl) ?_
                    refine jr_aload rfl rfl ?_
                    refine jr_getM rfl rfl rfl rfl hto ?_
                    refine jr_iload rfl rfl ?_
                    refine jr_iload rfl rfl ?_
                    refine jr_cv3 (mc' := 0) (ms' := 0) rfl jm_Led_knownLength_n jm_Led_knownLength_f rfl rfl rfl rfl rfl rfl rfl (Nat.zero_le _) (Nat.zero_le _) ?_
                    have hvi := jl_vi (by omega) hv
                    have hvg : v = nI (jl_cnt (jl_gm hm b w n i (jl_q hm) (jl_mo hm) (jl_e hm)) (jl_P (jl_w hm b) i)) ∧ jl_fc hm b i n w S1 := by
                      rcases hv with ⟨-, q⟩ | ⟨-, q1, q2⟩
                      · exact absurd q (by assumption)
                      · exact ⟨q1, q2⟩
                    refine ev_known (hm := hm) (b := b) (m := i) (i := j) (lst := jl_Y hm w n) (N := jl_X hm w n) hw hR hn0n hvg.2.2.1 hvg.2.1 hj hi (fun x hx => hvg.2.2.2 (j + 1) (by omega) x hx) (fun x _ => jl_Tb (n := n) hw hn0n hj hi) (fun S2 f2 b2 hb2 => ?_)
                    refine jr_iret rfl rfl (Nat.zero_le _) (Nat.zero_le _) ?_
                    show jx_W (jm_MD_known, d + 40, 0, 0, false, 1, _) _ 0 0 0 [some _, some _, some _, some _, some _, none] [] _
                    refine jr_iload rfl rfl ?_
                    refine jr_ic rfl ?_
                    refine jr_ic rfl ?_
                    refine jr_cs3 (mc' := 0) (ms' := 0) rfl jm_MD_isIn_n jm_MD_isIn_f rfl rfl rfl rfl rfl (Nat.zero_le _) (Nat.zero_le _) ?_
                    show jx_W (jm_MD_isIn, _, _, _, _, _, _) _ 0 0 0 [some _, some _, some _] [] _
                    refine jr_iload rfl rfl ?_
                    refine jr_iload rfl rfl ?_
                    refine jr_icmp_lt rfl (fun m2MDisIn => ?_) (fun m2MDisIn => ?_)
                    · refine jr_ic rfl ?_
                      refine jr_zret rfl rfl rfl (Nat.zero_le _) (Nat.zero_le _) ?_
                      refine jr_if_eq rfl (fun _ => ?_) (fun z => absurd (by decide) z)
                      refine jr_ic rfl ?_
                      refine jr_iret rfl rfl (Nat.zero_le _) (Nat.zero_le _) ?_
                      first
                        | exact ⟨rfl, hRel0⟩
                        | (exfalso; omega)
                        | (exfalso; simp (disch := omega) only [Int32.lt_iff_toInt_lt, Int32.le_iff_toInt_le, ← Int32.toInt_inj, Int32.reduceToInt, nI_toInt] at c3 c2LedcanAsk c5LedcanAsk c10 c13 c26 c30 m2MDisIn; done)
                        | (exfalso; simp (disch := omega) only [Int32.lt_iff_toInt_lt, Int32.le_iff_toInt_le, ← Int32.toInt_inj, Int32.reduceToInt, nI_toInt] at c3 c2LedcanAsk c5LedcanAsk c10 c13 c26 c30 m2MDisIn; omega)
                    · refine jr_iload rfl rfl ?_
                      refine jr_iload rfl rfl ?_
                      refine jr_icmp_gt rfl (fun m5MDisIn => ?_) (fun m5MDisIn => ?_)
                      · refine jr_ic rfl ?_
                        refine jr_zret rfl rfl rfl (Nat.zero_le _) (Nat.zero_le _) ?_
                        refine jr_if_eq rfl (fun _ => ?_) (fun z => absurd (by decide) z)
                        refine jr_ic rfl ?_
                        refine jr_iret rfl rfl (Nat.zero_le _) (Nat.zero_le _) ?_
                        first
                          | exact ⟨rfl, hRel0⟩
                          | (exfalso; omega)
                          | (exfalso; simp (disch := omega) only [Int32.lt_iff_toInt_lt, Int32.le_iff_toInt_le, ← Int32.toInt_inj, Int32.reduceToInt, nI_toInt] at c3 c2LedcanAsk c5LedcanAsk c10 c13 c26 c30 m2MDisIn m5MDisIn; done)
                          | (exfalso; simp (disch := omega) only [Int32.lt_iff_toInt_lt, Int32.le_iff_toInt_le, ← Int32.toInt_inj, Int32.reduceToInt, nI_toInt] at c3 c2LedcanAsk c5LedcanAsk c10 c13 c26 c30 m2MDisIn m5MDisIn; omega)
                      · refine jr_ic rfl ?_
                        refine jr_goto rfl ?_
                        refine jr_zret rfl rfl rfl (Nat.zero_le _) (Nat.zero_le _) ?_
                        refine jr_if_eq rfl (fun z => absurd z (by decide)) (fun _ => ?_)
                        refine jr_iload rfl rfl ?_
                        refine jr_ic rfl ?_
                        refine jr_iload rfl rfl ?_
                        refine jr_ic rfl ?_
                        refine jr_isub rfl ?_
                        refine jr_cs3 (mc' := 0) (ms' := 0) rfl jm_MD_isIn_n jm_MD_isIn_f rfl rfl rfl rfl rfl (Nat.zero_le _) (Nat.zero_le _) ?_
                        show jx_W (jm_MD_isIn, _, _, _, _, _, _) _ 0 0 0 [some _, some _, some _] [] _
                        refine jr_iload rfl rfl ?_
                        refine jr_iload rfl rfl ?_
                        refine jr_icmp_lt rfl (fun m2MDisIn_2 => ?_) (fun m2MDisIn_2 => ?_)
                        · refine jr_ic rfl ?_
                          refine jr_zret rfl rfl rfl (Nat.zero_le _) (Nat.zero_le _) ?_
                          refine jr_if_eq rfl (fun _ => ?_) (fun z => absurd (by decide) z)
                          refine jr_ic rfl ?_
                          refine jr_iret rfl rfl (Nat.zero_le _) (Nat.zero_le _) ?_
                          first
                            | exact ⟨rfl, hRel0⟩
                            | (exfalso; omega)
                            | (exfalso; simp (disch := omega) only [Int32.lt_iff_toInt_lt, Int32.le_iff_toInt_le, ← Int32.toInt_inj, Int32.reduceToInt, nI_toInt] at c3 c2LedcanAsk c5LedcanAsk c10 c13 c26 c30 m2MDisIn m5MDisIn m2MDisIn_2; done)
                            | (exfalso; simp (disch := omega) only [Int32.lt_iff_toInt_lt, Int32.le_iff_toInt_le, ← Int32.toInt_inj, Int32.reduceToInt, nI_toInt] at c3 c2LedcanAsk c5LedcanAsk c10 c13 c26 c30 m2MDisIn m5MDisIn m2MDisIn_2; omega)
                        · refine jr_iload rfl rfl ?_
                          refine jr_iload rfl rfl ?_
                          refine jr_icmp_gt rfl (fun m5MDisIn_2 => ?_) (fun m5MDisIn_2 => ?_)
                          · refine jr_ic rfl ?_
                            refine jr_zret rfl rfl rfl (Nat.zero_le _) (Nat.zero_le _) ?_
                            refine jr_if_eq rfl (fun _ => ?_) (fun z => absurd (by decide) z)
                            refine jr_ic rfl ?_
                            refine jr_iret rfl rfl (Nat.zero_le _) (Nat.zero_le _) ?_
                            first
                              | exact ⟨rfl, hRel0⟩
                              | (exfalso; omega)
                              | (exfalso; simp (disch := omega) only [Int32.lt_iff_toInt_lt, Int32.le_iff_toInt_le, ← Int32.toInt_inj, Int32.reduceToInt, nI_toInt] at c3 c2LedcanAsk c5LedcanAsk c10 c13 c26 c30 m2MDisIn m5MDisIn m2MDisIn_2 m5MDisIn_2; done)
                              | (exfalso; simp (disch := omega) only [Int32.lt_iff_toInt_lt, Int32.le_iff_toInt_le, ← Int32.toInt_inj, Int32.reduceToInt, nI_toInt] at c3 c2LedcanAsk c5LedcanAsk c10 c13 c26 c30 m2MDisIn m5MDisIn m2MDisIn_2 m5MDisIn_2; omega)
                          · refine jr_ic rfl ?_
                            refine jr_goto rfl ?_
                            refine jr_zret rfl rfl rfl (Nat.zero_le _) (Nat.zero_le _) ?_
                            refine jr_if_eq rfl (fun z => absurd z (by decide)) (fun _ => ?_)
                            refine jr_aload rfl rfl ?_
                            refine jr_cv0 (mc' := 0) (ms' := 0) rfl jm_MD_hasMonths_n jm_MD_hasMonths_f rfl rfl rfl rfl rfl rfl rfl (Nat.zero_le _) (Nat.zero_le _) ?_
                            show jx_W (jm_MD_hasMonths, _, _, _, _, _, _) _ 0 0 0 [some _] [] _
                            refine jr_aload rfl rfl ?_
                            refine jr_getR rfl rfl rfl rfl (Or.inl rfl) ?_
                            refine jr_aload rfl rfl ?_
                            refine jr_getI rfl rfl ?_
                            refine jr_iald (len := 2) rfl rfl hw.1 (by omega) ?_
                            refine jr_if_le rfl (fun m5MDhasMonths => ?_) (fun m5MDhasMonths => ?_)
                            · refine jr_ic rfl ?_
                              refine jr_zret rfl rfl rfl (Nat.zero_le _) (Nat.zero_le _) ?_
                              refine jr_if_ne rfl (fun z => absurd (by decide) z) (fun _ => ?_)
                              refine jr_ic rfl ?_
                              refine jr_iret rfl rfl (Nat.zero_le _) (Nat.zero_le _) ?_
                              first
                                | exact ⟨rfl, hRel0⟩
                                | (exfalso; omega)
                                | (exfalso; simp (disch := omega) only [Int32.lt_iff_toInt_lt, Int32.le_iff_toInt_le, ← Int32.toInt_inj, Int32.reduceToInt, nI_toInt] at c3 c2LedcanAsk c5LedcanAsk c10 c13 c26 c30 m2MDisIn m5MDisIn m2MDisIn_2 m5MDisIn_2 m5MDhasMonths; done)
                                | (exfalso; simp (disch := omega) only [Int32.lt_iff_toInt_lt, Int32.le_iff_toInt_le, ← Int32.toInt_inj, Int32.reduceToInt, nI_toInt] at c3 c2LedcanAsk c5LedcanAsk c10 c13 c26 c30 m2MDisIn m5MDisIn m2MDisIn_2 m5MDisIn_2 m5MDhasMonths; omega)
                            · refine jr_ic rfl ?_
                              refine jr_goto rfl ?_
                              refine jr_zret rfl rfl rfl (Nat.zero_le _) (Nat.zero_le _) ?_
                              refine jr_if_ne rfl (fun _ => ?_) (fun z => absurd z (by decide))
                              refine jr_aload rfl rfl ?_
                              refine jr_iload rfl rfl ?_
                              refine jr_iload rfl rfl ?_
                              refine jr_cv2 (mc' := 0) (ms' := 0) rfl jm_MD_countRows_n jm_MD_countRows_f rfl rfl rfl rfl rfl rfl rfl (Nat.zero_le _) (Nat.zero_le _) ?_
                              refine eM_rowsV (kk := w) hw hn0n hi e1 e3 e4 (fun S5 v5 hS5 hv5 => ?_)
                              refine jr_ist5 rfl rfl ?_
                              refine jr_iload rfl rfl ?_
                              refine jr_ic rfl ?_
                              refine jr_icmp_ge rfl (fun m24 => ?_) (fun m24 => ?_)
                              · refine jr_iload rfl rfl ?_
                                refine jr_if_eq rfl (fun m32 => ?_) (fun m32 => ?_)
                                · refine jr_aload rfl rfl ?_
                                  refine jr_getR rfl rfl rfl rfl (Or.inl rfl) ?_
                                  refine jr_iload rfl rfl ?_
                                  refine jr_iald (len := 5) rfl rfl rfl (by omega) ?_
                                  refine jr_iret rfl rfl (Nat.zero_le _) (Nat.zero_le _) ?_
                                  have hvv := jl_vv hv hv5
                                  have hvi5 := jl_vi (by omega) hv5
                                  have hvi := congrArg Int32.toInt hvv
                                  have hcp : 0 < (jl_cnt (jl_gm hm b w n i (jl_q hm) (jl_mo hm) (jl_e hm)) (jl_P (jl_w hm b) i)) := by
                                    rcases hvi5 with ⟨q, -⟩ | ⟨q, -⟩ <;> (have q2 := m24; simp (disch := omega) only [Int32.lt_iff_toInt_lt, Int32.le_iff_toInt_le, ← Int32.toInt_inj, Int32.reduceToInt, nI_toInt] at q2; omega)
                                  have hkp : ∀ x, x < i → jl_kp hm b (jl_gm hm b w n i (jl_q hm) (jl_mo hm) (jl_e hm)) (jl_P (jl_w hm b) i) x S5 := by
                                    rcases hv5 with ⟨q1, -⟩ | ⟨-, -, q⟩
                                    · rcases hv with ⟨-, q⟩ | ⟨q2, -, -⟩
                                      · exact absurd q (by assumption)
                                      · exact absurd q1 q2
                                    · exact q
                                  have hM := jl_factsM e4 hnm5
                                  have hk2 := hkp j hj hcp
                                  exact ⟨congrArg (fun z => some (jv_i z)) (jl_bm_u hb2 (jl_bm_iff (jl_bm_m hk2.1 ⟨fun _ => m32, fun _ => rfl⟩) (jl_seen hw hn0n hM hj))), (jz_Rel_L (jz_Rel_m hRel0 hS5) (fun f z1 z2 => (congrFun (f2 4 0 (by decide)) f).trans (f1 f z1 z2)))⟩
                                · refine jr_aload rfl rfl ?_
                                  refine jr_getR rfl rfl rfl rfl (Or.inl rfl) ?_
                                  refine jr_iload rfl rfl ?_
                                  refine jr_iald (len := 5) rfl rfl rfl (by omega) ?_
                                  refine jr_goto rfl ?_
                                  refine jr_iret rfl rfl (Nat.zero_le _) (Nat.zero_le _) ?_
                                  have hvv := jl_vv hv hv5
                                  have hvi5 := jl_vi (by omega) hv5
                                  have hvi := congrArg Int32.toInt hvv
                                  have hcp : 0 < (jl_cnt (jl_gm hm b w n i (jl_q hm) (jl_mo hm) (jl_e hm)) (jl_P (jl_w hm b) i)) := by
                                    rcases hvi5 with ⟨q, -⟩ | ⟨q, -⟩ <;> (have q2 := m24; simp (disch := omega) only [Int32.lt_iff_toInt_lt, Int32.le_iff_toInt_le, ← Int32.toInt_inj, Int32.reduceToInt, nI_toInt] at q2; omega)
                                  have hkp : ∀ x, x < i → jl_kp hm b (jl_gm hm b w n i (jl_q hm) (jl_mo hm) (jl_e hm)) (jl_P (jl_w hm b) i) x S5 := by
                                    rcases hv5 with ⟨q1, -⟩ | ⟨-, -, q⟩
                                    · rcases hv with ⟨-, q⟩ | ⟨q2, -, -⟩
                                      · exact absurd q (by assumption)
                                      · exact absurd q1 q2
                                    · exact q
                                  have hM := jl_factsM e4 hnm5
                                  have hk2 := hkp j hj hcp
                                  exact ⟨congrArg (fun z => some (jv_i z)) (jl_bm_u hb2 (jl_bm_iff (jl_bm_m hk2.2 ⟨fun q => absurd q (by decide), fun q => absurd q m32⟩) (jl_seen hw hn0n hM hj))), (jz_Rel_L (jz_Rel_m hRel0 hS5) (fun f z1 z2 => (congrFun (f2 4 0 (by decide)) f).trans (f1 f z1 z2)))⟩
                              · refine jr_iload rfl rfl ?_
                                refine jr_if_ne rfl (fun m26 => ?_) (fun m26 => ?_)
                                · refine jr_ic rfl ?_
                                  refine jr_iret rfl rfl (Nat.zero_le _) (Nat.zero_le _) ?_
                                  have hvv := jl_vv hv hv5
                                  have hvi5 := jl_vi (by omega) hv5
                                  have hvi := congrArg Int32.toInt hvv
                                  first
                                    | (exfalso; simp (disch := omega) only [Int32.lt_iff_toInt_lt, Int32.le_iff_toInt_le, ← Int32.toInt_inj, Int32.reduceToInt, nI_toInt] at c3 c2LedcanAsk c5LedcanAsk c10 c13 c26 c30 m2MDisIn m5MDisIn m2MDisIn_2 m5MDisIn_2 m5MDhasMonths m24 m26; omega)
                                    | (exfalso; subst hvv; contradiction)
                                    | (subst hvv; exfalso; simp (disch := omega) only [Int32.lt_iff_toInt_lt, Int32.le_iff_toInt_le, ← Int32.toInt_inj, Int32.reduceToInt, nI_toInt] at c3 c2LedcanAsk c5LedcanAsk c10 c13 c26 c30 m2MDisIn m5MDisIn m2MDisIn_2 m5MDisIn_2 m5MDhasMonths m24 m26; omega)
                                · refine jr_ic rfl ?_
                                  refine jr_goto rfl ?_
                                  refine jr_iret rfl rfl (Nat.zero_le _) (Nat.zero_le _) ?_
                                  have hvv := jl_vv hv hv5
                                  have hvi5 := jl_vi (by omega) hv5
                                  have hvi := congrArg Int32.toInt hvv
                                  first
                                    | (exfalso; simp (disch := omega) only [Int32.lt_iff_toInt_lt, Int32.le_iff_toInt_le, ← Int32.toInt_inj, Int32.reduceToInt, nI_toInt] at c3 c2LedcanAsk c5LedcanAsk c10 c13 c26 c30 m2MDisIn m5MDisIn m2MDisIn_2 m5MDisIn_2 m5MDhasMonths m24 m26; omega)
                                    | (exfalso; subst hvv; contradiction)
                                    | (subst hvv; exfalso; simp (disch := omega) only [Int32.lt_iff_toInt_lt, Int32.le_iff_toInt_le, ← Int32.toInt_inj, Int32.reduceToInt, nI_toInt] at c3 c2LedcanAsk c5LedcanAsk c10 c13 c26 c30 m2MDisIn m5MDisIn m2MDisIn_2 m5MDisIn_2 m5MDhasMonths m24 m26; omega)
                  · refine jr_ic rfl ?_
                    refine jr_goto rfl ?_
                    refine jr_iret rfl rfl (Nat.zero_le _) (Nat.zero_le _) ?_
                    show jx_W (jm_MD_known, d + 40, 0, 0, false, 1, _) _ 0 0 0 [some _, some _, some _, some _, some _, none] [] _
                    refine jr_iload rfl rfl ?_
                    refine jr_ic rfl ?_
                    refine jr_ic rfl ?_
                    refine jr_cs3 (mc' := 0) (ms' := 0) rfl jm_MD_isIn_n jm_MD_isIn_f rfl rfl rfl rfl rfl (Nat.zero_le _) (Nat.zero_le _) ?_
                    show jx_W (jm_MD_isIn, _, _, _, _, _, _) _ 0 0 0 [some _, some _, some _] [] _
                    refine jr_iload rfl rfl ?_
                    refine jr_iload rfl rfl ?_
                    refine jr_icmp_lt rfl (fun m2MDisIn => ?_) (fun m2MDisIn => ?_)
                    · refine jr_ic rfl ?_
                      refine jr_zret rfl rfl rfl (Nat.zero_le _) (Nat.zero_le _) ?_
                      refine jr_if_eq rfl (fun _ => ?_) (fun z => absurd (by decide) z)
                      refine jr_ic rfl ?_
                      refine jr_iret rfl rfl (Nat.zero_le _) (Nat.zero_le _) ?_
                      first
                        | exact ⟨rfl, hRel0⟩
                        | (exfalso; omega)
                        | (exfalso; simp (disch := omega) only [Int32.lt_iff_toInt_lt, Int32.le_iff_toInt_le, ← Int32.toInt_inj, Int32.reduceToInt, nI_toInt] at c3 c2LedcanAsk c5LedcanAsk c10 c13 c26 c30 m2MDisIn; done)
                        | (exfalso; simp (disch := omega) only [Int32.lt_iff_toInt_lt, Int32.le_iff_toInt_le, ← Int32.toInt_inj, Int32.reduceToInt, nI_toInt] at c3 c2LedcanAsk c5LedcanAsk c10 c13 c26 c30 m2MDisIn; omega)
                    · refine jr_iload rfl rfl ?_
                      refine jr_iload rfl rfl ?_
                      refine jr_icmp_gt rfl (fun m5MDisIn => ?_) (fun m5MDisIn => ?_)
                      · refine jr_ic rfl ?_
                        refine jr_zret rfl rfl rfl (Nat.zero_le _) (Nat.zero_le _) ?_
                        refine jr_if_eq rfl (fun _ => ?_) (fun z => absurd (by decide) z)
                        refine jr_ic rfl ?_
                        refine jr_iret rfl rfl (Nat.zero_le _) (Nat.zero_le _) ?_
                        first
                          | exact ⟨rfl, hRel0⟩
                          | (exfalso; omega)
                          | (exfalso; simp (disch := omega) only [Int32.lt_iff_toInt_lt, Int32.le_iff_toInt_le, ← Int32.toInt_inj, Int32.reduceToInt, nI_toInt] at c3 c2LedcanAsk c5LedcanAsk c10 c13 c26 c30 m2MDisIn m5MDisIn; done)
                          | (exfalso; simp (disch := omega) only [Int32.lt_iff_toInt_lt, Int32.le_iff_toInt_le, ← Int32.toInt_inj, Int32.reduceToInt, nI_toInt] at c3 c2LedcanAsk c5LedcanAsk c10 c13 c26 c30 m2MDisIn m5MDisIn; omega)
                      · refine jr_ic rfl ?_
                        refine jr_goto rfl ?_
                        refine jr_zret rfl rfl rfl (Nat.zero_le _) (Nat.zero_le _) ?_
                        refine jr_if_eq rfl (fun z => absurd z (by decide)) (fun _ => ?_)
                        refine jr_iload rfl rfl ?_
                        refine jr_ic rfl ?_
                        refine jr_iload rfl rfl ?_
                        refine jr_ic rfl ?_
                        refine jr_isub rfl ?_
                        refine jr_cs3 (mc' := 0) (ms' := 0) rfl jm_MD_isIn_n jm_MD_isIn_f rfl rfl rfl rfl rfl (Nat.zero_le _) (Nat.zero_le _) ?_
                        show jx_W (jm_MD_isIn, _, _, _, _, _, _) _ 0 0 0 [some _, some _, some _] [] _
                        refine jr_iload rfl rfl ?_
                        refine jr_iload rfl rfl ?_
                        refine jr_icmp_lt rfl (fun m2MDisIn_2 => ?_) (fun m2MDisIn_2 => ?_)
                        · refine jr_ic rfl ?_
                          refine jr_zret rfl rfl rfl (Nat.zero_le _) (Nat.zero_le _) ?_
                          refine jr_if_eq rfl (fun _ => ?_) (fun z => absurd (by decide) z)
                          refine jr_ic rfl ?_
                          refine jr_iret rfl rfl (Nat.zero_le _) (Nat.zero_le _) ?_
                          first
                            | exact ⟨rfl, hRel0⟩
                            | (exfalso; omega)
                            | (exfalso; simp (disch := omega) only [Int32.lt_iff_toInt_lt, Int32.le_iff_toInt_le, ← Int32.toInt_inj, Int32.reduceToInt, nI_toInt] at c3 c2LedcanAsk c5LedcanAsk c10 c13 c26 c30 m2MDisIn m5MDisIn m2MDisIn_2; done)
                            | (exfalso; simp (disch := omega) only [Int32.lt_iff_toInt_lt, Int32.le_iff_toInt_le, ← Int32.toInt_inj, Int32.reduceToInt, nI_toInt] at c3 c2LedcanAsk c5LedcanAsk c10 c13 c26 c30 m2MDisIn m5MDisIn m2MDisIn_2; omega)
                        · refine jr_iload rfl rfl ?_
                          refine jr_iload rfl rfl ?_
                          refine jr_icmp_gt rfl (fun m5MDisIn_2 => ?_) (fun m5MDisIn_2 => ?_)
                          · refine jr_ic rfl ?_
                            refine jr_zret rfl rfl rfl (Nat.zero_le _) (Nat.zero_le _) ?_
                            refine jr_if_eq rfl (fun _ => ?_) (fun z => absurd (by decide) z)
                            refine jr_ic rfl ?_
                            refine jr_iret rfl rfl (Nat.zero_le _) (Nat.zero_le _) ?_
                            first
                              | exact ⟨rfl, hRel0⟩
                              | (exfalso; omega)
                              | (exfalso; simp (disch := omega) only [Int32.lt_iff_toInt_lt, Int32.le_iff_toInt_le, ← Int32.toInt_inj, Int32.reduceToInt, nI_toInt] at c3 c2LedcanAsk c5LedcanAsk c10 c13 c26 c30 m2MDisIn m5MDisIn m2MDisIn_2 m5MDisIn_2; done)
                              | (exfalso; simp (disch := omega) only [Int32.lt_iff_toInt_lt, Int32.le_iff_toInt_le, ← Int32.toInt_inj, Int32.reduceToInt, nI_toInt] at c3 c2LedcanAsk c5LedcanAsk c10 c13 c26 c30 m2MDisIn m5MDisIn m2MDisIn_2 m5MDisIn_2; omega)
                          · refine jr_ic rfl ?_
                            refine jr_goto rfl ?_
                            refine jr_zret rfl rfl rfl (Nat.zero_le _) (Nat.zero_le _) ?_
                            refine jr_if_eq rfl (fun z => absurd z (by decide)) (fun _ => ?_)
                            refine jr_aload rfl rfl ?_
                            refine jr_cv0 (mc' := 0) (ms' := 0) rfl jm_MD_hasMonths_n jm_MD_hasMonths_f rfl rfl rfl rfl rfl rfl rfl (Nat.zero_le _) (Nat.zero_le _) ?_
                            show jx_W (jm_MD_hasMonths, _, _, _, _, _, _) _ 0 0 0 [some _] [] _
                            refine jr_aload rfl rfl ?_
                            refine jr_getR rfl rfl rfl rfl (Or.inl rfl) ?_
                            refine jr_aload rfl rfl ?_
                            refine jr_getI rfl rfl ?_
                            refine jr_iald (len := 2) rfl rfl hw.1 (by omega) ?_
                            refine jr_if_le rfl (fun m5MDhasMonths => ?_) (fun m5MDhasMonths => ?_)
                            · refine jr_ic rfl ?_
                              refine jr_zret rfl rfl rfl (Nat.zero_le _) (Nat.zero_le _) ?_
                              refine jr_if_ne rfl (fun z => absurd (by decide) z) (fun _ => ?_)
                              refine jr_ic rfl ?_
                              refine jr_iret rfl rfl (Nat.zero_le _) (Nat.zero_le _) ?_
                              first
                                | exact ⟨rfl, hRel0⟩
                                | (exfalso; omega)
                                | (exfalso; simp (disch := omega) only [Int32.lt_iff_toInt_lt, Int32.le_iff_toInt_le, ← Int32.toInt_inj, Int32.reduceToInt, nI_toInt] at c3 c2LedcanAsk c5LedcanAsk c10 c13 c26 c30 m2MDisIn m5MDisIn m2MDisIn_2 m5MDisIn_2 m5MDhasMonths; done)
                                | (exfalso; simp (disch := omega) only [Int32.lt_iff_toInt_lt, Int32.le_iff_toInt_le, ← Int32.toInt_inj, Int32.reduceToInt, nI_toInt] at c3 c2LedcanAsk c5LedcanAsk c10 c13 c26 c30 m2MDisIn m5MDisIn m2MDisIn_2 m5MDisIn_2 m5MDhasMonths; omega)
                            · refine jr_ic rfl ?_
                              refine jr_goto rfl ?_
                              refine jr_zret rfl rfl rfl (Nat.zero_le _) (Nat.zero_le _) ?_
                              refine jr_if_ne rfl (fun _ => ?_) (fun z => absurd z (by decide))
                              refine jr_aload rfl rfl ?_
                              refine jr_iload rfl rfl ?_
                              refine jr_iload rfl rfl ?_
                              refine jr_cv2 (mc' := 0) (ms' := 0) rfl jm_MD_countRows_n jm_MD_countRows_f rfl rfl rfl rfl rfl rfl rfl (Nat.zero_le _) (Nat.zero_le _) ?_
                              refine eM_rowsV (kk := w) hw hn0n hi e1 e3 e4 (fun S5 v5 hS5 hv5 => ?_)
                              refine jr_ist5 rfl rfl ?_
                              refine jr_iload rfl rfl ?_
                              refine jr_ic rfl ?_
                              refine jr_icmp_ge rfl (fun m24 => ?_) (fun m24 => ?_)
                              · refine jr_iload rfl rfl ?_
                                refine jr_if_eq rfl (fun m32 => ?_) (fun m32 => ?_)
                                · refine jr_aload rfl rfl ?_
                                  refine jr_getR rfl rfl rfl rfl (Or.inl rfl) ?_
                                  refine jr_iload rfl rfl ?_
                                  refine jr_iald (len := 5) rfl rfl rfl (by omega) ?_
                                  refine jr_iret rfl rfl (Nat.zero_le _) (Nat.zero_le _) ?_
                                  have hvv := jl_vv hv hv5
                                  have hvi5 := jl_vi (by omega) hv5
                                  have hvi := congrArg Int32.toInt hvv
                                  first
                                    | exact ⟨rfl, (jz_Rel_L (jz_Rel_m hRel0 hS5) f1)⟩
                                    | (exfalso; simp (disch := omega) only [Int32.lt_iff_toInt_lt, Int32.le_iff_toInt_le, ← Int32.toInt_inj, Int32.reduceToInt, nI_toInt] at c3 c2LedcanAsk c5LedcanAsk c10 c13 c26 c30 m2MDisIn m5MDisIn m2MDisIn_2 m5MDisIn_2 m5MDhasMonths m24 m32; omega)
                                    | (subst hvv; exfalso; simp (disch := omega) only [Int32.lt_iff_toInt_lt, Int32.le_iff_toInt_le, ← Int32.toInt_inj, Int32.reduceToInt, nI_toInt] at c3 c2LedcanAsk c5LedcanAsk c10 c13 c26 c30 m2MDisIn m5MDisIn m2MDisIn_2 m5MDisIn_2 m5MDhasMonths m24 m32; omega)
                                    | (exfalso; subst hvv; contradiction)
                                · refine jr_aload rfl rfl ?_
                                  refine jr_getR rfl rfl rfl rfl (Or.inl rfl) ?_
                                  refine jr_iload rfl rfl ?_
                                  refine jr_iald (len := 5) rfl rfl rfl (by omega) ?_
                                  refine jr_goto rfl ?_
                                  refine jr_iret rfl rfl (Nat.zero_le _) (Nat.zero_le _) ?_
                                  have hvv := jl_vv hv hv5
                                  have hvi5 := jl_vi (by omega) hv5
                                  have hvi := congrArg Int32.toInt hvv
                                  first
                                    | exact ⟨rfl, (jz_Rel_L (jz_Rel_m hRel0 hS5) f1)⟩
                                    | (exfalso; simp (disch := omega) only [Int32.lt_iff_toInt_lt, Int32.le_iff_toInt_le, ← Int32.toInt_inj, Int32.reduceToInt, nI_toInt] at c3 c2LedcanAsk c5LedcanAsk c10 c13 c26 c30 m2MDisIn m5MDisIn m2MDisIn_2 m5MDisIn_2 m5MDhasMonths m24 m32; omega)
                                    | (subst hvv; exfalso; simp (disch := omega) only [Int32.lt_iff_toInt_lt, Int32.le_iff_toInt_le, ← Int32.toInt_inj, Int32.reduceToInt, nI_toInt] at c3 c2LedcanAsk c5LedcanAsk c10 c13 c26 c30 m2MDisIn m5MDisIn m2MDisIn_2 m5MDisIn_2 m5MDhasMonths m24 m32; omega)
                                    | (exfalso; subst hvv; contradiction)
                              · refine jr_iload rfl rfl ?_
                                refine jr_if_ne rfl (fun m26 => ?_) (fun m26 => ?_)
                                · refine jr_ic rfl ?_
                                  refine jr_iret rfl rfl (Nat.zero_le _) (Nat.zero_le _) ?_
                                  have hvv := jl_vv hv hv5
                                  have hvi5 := jl_vi (by omega) hv5
                                  have hvi := congrArg Int32.toInt hvv
                                  first
                                    | exact ⟨rfl, (jz_Rel_L (jz_Rel_m hRel0 hS5) f1)⟩
                                    | (exfalso; simp (disch := omega) only [Int32.lt_iff_toInt_lt, Int32.le_iff_toInt_le, ← Int32.toInt_inj, Int32.reduceToInt, nI_toInt] at c3 c2LedcanAsk c5LedcanAsk c10 c13 c26 c30 m2MDisIn m5MDisIn m2MDisIn_2 m5MDisIn_2 m5MDhasMonths m24 m26; omega)
                                    | (subst hvv; exfalso; simp (disch := omega) only [Int32.lt_iff_toInt_lt, Int32.le_iff_toInt_le, ← Int32.toInt_inj, Int32.reduceToInt, nI_toInt] at c3 c2LedcanAsk c5LedcanAsk c10 c13 c26 c30 m2MDisIn m5MDisIn m2MDisIn_2 m5MDisIn_2 m5MDhasMonths m24 m26; omega)
                                    | (exfalso; subst hvv; contradiction)
                                · refine jr_ic rfl ?_
                                  refine jr_goto rfl ?_
                                  refine jr_iret rfl rfl (Nat.zero_le _) (Nat.zero_le _) ?_
                                  have hvv := jl_vv hv hv5
                                  have hvi5 := jl_vi (by omega) hv5
                                  have hvi := congrArg Int32.toInt hvv
                                  first
                                    | exact ⟨rfl, (jz_Rel_L (jz_Rel_m hRel0 hS5) f1)⟩
                                    | (exfalso; simp (disch := omega) only [Int32.lt_iff_toInt_lt, Int32.le_iff_toInt_le, ← Int32.toInt_inj, Int32.reduceToInt, nI_toInt] at c3 c2LedcanAsk c5LedcanAsk c10 c13 c26 c30 m2MDisIn m5MDisIn m2MDisIn_2 m5MDisIn_2 m5MDhasMonths m24 m26; omega)
                                    | (subst hvv; exfalso; simp (disch := omega) only [Int32.lt_iff_toInt_lt, Int32.le_iff_toInt_le, ← Int32.toInt_inj, Int32.reduceToInt, nI_toInt] at c3 c2LedcanAsk c5LedcanAsk c10 c13 c26 c30 m2MDisIn m5MDisIn m2MDisIn_2 m5MDisIn_2 m5MDhasMonths m24 m26; omega)
                                    | (exfalso; subst hvv; contradiction)
                · refine jr_ic rfl ?_
                  refine jr_iret rfl rfl (Nat.zero_le _) (Nat.zero_le _) ?_
                  show jx_W (jm_MD_known, d + 40, 0, 0, false, 1, _) _ 0 0 0 [some _, some _, some _, some _, some _, none] [] _
                  refine jr_iload rfl rfl ?_
                  refine jr_ic rfl ?_
                  refine jr_ic rfl ?_
                  refine jr_cs3 (mc' := 0) (ms' := 0) rfl jm_MD_isIn_n jm_MD_isIn_f rfl rfl rfl rfl rfl (Nat.zero_le _) (Nat.zero_le _) ?_
                  show jx_W (jm_MD_isIn, _, _, _, _, _, _) _ 0 0 0 [some _, some _, some _] [] _
                  refine jr_iload rfl rfl ?_
                  refine jr_iload rfl rfl ?_
                  refine jr_icmp_lt rfl (fun m2MDisIn => ?_) (fun m2MDisIn => ?_)
                  · refine jr_ic rfl ?_
                    refine jr_zret rfl rfl rfl (Nat.zero_le _) (Nat.zero_le _) ?_
                    refine jr_if_eq rfl (fun _ => ?_) (fun z => absurd (by decide) z)
                    refine jr_ic rfl ?_
                    refine jr_iret rfl rfl (Nat.zero_le _) (Nat.zero_le _) ?_
                    first
                      | exact ⟨rfl, hRel0⟩
                      | (exfalso; omega)
                      | (exfalso; simp (disch := omega) only [Int32.lt_iff_toInt_lt, Int32.le_iff_toInt_le, ← Int32.toInt_inj, Int32.reduceToInt, nI_toInt] at c3 c2LedcanAsk c5LedcanAsk c10 c13 c26 m2MDisIn; done)
                      | (exfalso; simp (disch := omega) only [Int32.lt_iff_toInt_lt, Int32.le_iff_toInt_le, ← Int32.toInt_inj, Int32.reduceToInt, nI_toInt] at c3 c2LedcanAsk c5LedcanAsk c10 c13 c26 m2MDisIn; omega)
                  · refine jr_iload rfl rfl ?_
                    refine jr_iload rfl rfl ?_
                    refine jr_icmp_gt rfl (fun m5MDisIn => ?_) (fun m5MDisIn => ?_)
                    · refine jr_ic rfl ?_
                      refine jr_zret rfl rfl rfl (Nat.zero_le _) (Nat.zero_le _) ?_
                      refine jr_if_eq rfl (fun _ => ?_) (fun z => absurd (by decide) z)
                      refine jr_ic rfl ?_
                      refine jr_iret rfl rfl (Nat.zero_le _) (Nat.zero_le _) ?_
                      first
                        | exact ⟨rfl, hRel0⟩
                        | (exfalso; omega)
                        | (exfalso; simp (disch := omega) only [Int32.lt_iff_toInt_lt, Int32.le_iff_toInt_le, ← Int32.toInt_inj, Int32.reduceToInt, nI_toInt] at c3 c2LedcanAsk c5LedcanAsk c10 c13 c26 m2MDisIn m5MDisIn; done)
                        | (exfalso; simp (disch := omega) only [Int32.lt_iff_toInt_lt, Int32.le_iff_toInt_le, ← Int32.toInt_inj, Int32.reduceToInt, nI_toInt] at c3 c2LedcanAsk c5LedcanAsk c10 c13 c26 m2MDisIn m5MDisIn; omega)
                    · refine jr_ic rfl ?_
                      refine jr_goto rfl ?_
                      refine jr_zret rfl rfl rfl (Nat.zero_le _) (Nat.zero_le _) ?_
                      refine jr_if_eq rfl (fun z => absurd z (by decide)) (fun _ => ?_)
                      refine jr_iload rfl rfl ?_
                      refine jr_ic rfl ?_
                      refine jr_iload rfl rfl ?_
                      refine jr_ic rfl ?_
                      refine jr_isub rfl ?_
                      refine jr_cs3 (mc' := 0) (ms' := 0) rfl jm_MD_isIn_n jm_MD_isIn_f rfl rfl rfl rfl rfl (Nat.zero_le _) (Nat.zero_le _) ?_
                      show jx_W (jm_MD_isIn, _, _, _, _, _, _) _ 0 0 0 [some _, some _, some _] [] _
                      refine jr_iload rfl rfl ?_
                      refine jr_iload rfl rfl ?_
                      refine jr_icmp_lt rfl (fun m2MDisIn_2 => ?_) (fun m2MDisIn_2 => ?_)
                      · refine jr_ic rfl ?_
                        refine jr_zret rfl rfl rfl (Nat.zero_le _) (Nat.zero_le _) ?_
                        refine jr_if_eq rfl (fun _ => ?_) (fun z => absurd (by decide) z)
                        refine jr_ic rfl ?_
                        refine jr_iret rfl rfl (Nat.zero_le _) (Nat.zero_le _) ?_
                        first
                          | exact ⟨rfl, hRel0⟩
                          | (exfalso; omega)
                          | (exfalso; simp (disch := omega) only [Int32.lt_iff_toInt_lt, Int32.le_iff_toInt_le, ← Int32.toInt_inj, Int32.reduceToInt, nI_toInt] at c3 c2LedcanAsk c5LedcanAsk c10 c13 c26 m2MDisIn m5MDisIn m2MDisIn_2; done)
                          | (exfalso; simp (disch := omega) only [Int32.lt_iff_toInt_lt, Int32.le_iff_toInt_le, ← Int32.toInt_inj, Int32.reduceToInt, nI_toInt] at c3 c2LedcanAsk c5LedcanAsk c10 c13 c26 m2MDisIn m5MDisIn m2MDisIn_2; omega)
                      · refine jr_iload rfl rfl ?_
                        refine jr_iload rfl rfl ?_
                        refine jr_icmp_gt rfl (fun m5MDisIn_2 => ?_) (fun m5MDisIn_2 => ?_)
                        · refine jr_ic rfl ?_
                          refine jr_zret rfl rfl rfl (Nat.zero_le _) (Nat.zero_le _) ?_
                          refine jr_if_eq rfl (fun _ => ?_) (fun z => absurd (by decide) z)
                          refine jr_ic rfl ?_
                          refine jr_iret rfl rfl (Nat.zero_le _) (Nat.zero_le _) ?_
                          first
                            | exact ⟨rfl, hRel0⟩
                            | (exfalso; omega)
                            | (exfalso; simp (disch := omega) only [Int32.lt_iff_toInt_lt, Int32.le_iff_toInt_le, ← Int32.toInt_inj, Int32.reduceToInt, nI_toInt] at c3 c2LedcanAsk c5LedcanAsk c10 c13 c26 m2MDisIn m5MDisIn m2MDisIn_2 m5MDisIn_2; done)
                            | (exfalso; simp (disch := omega) only [Int32.lt_iff_toInt_lt, Int32.le_iff_toInt_le, ← Int32.toInt_inj, Int32.reduceToInt, nI_toInt] at c3 c2LedcanAsk c5LedcanAsk c10 c13 c26 m2MDisIn m5MDisIn m2MDisIn_2 m5MDisIn_2; omega)
                        · refine jr_ic rfl ?_
                          refine jr_goto rfl ?_
                          refine jr_zret rfl rfl rfl (Nat.zero_le _) (Nat.zero_le _) ?_
                          refine jr_if_eq rfl (fun z => absurd z (by decide)) (fun _ => ?_)
                          refine jr_aload rfl rfl ?_
                          refine jr_cv0 (mc' := 0) (ms' := 0) rfl jm_MD_hasMonths_n jm_MD_hasMonths_f rfl rfl rfl rfl rfl rfl rfl (Nat.zero_le _) (Nat.zero_le _) ?_
                          show jx_W (jm_MD_hasMonths, _, _, _, _, _, _) _ 0 0 0 [some _] [] _
                          refine jr_aload rfl rfl ?_
                          refine jr_getR rfl rfl rfl rfl (Or.inl rfl) ?_
                          refine jr_aload rfl rfl ?_
                          refine jr_getI rfl rfl ?_
                          refine jr_iald (len := 2) rfl rfl hw.1 (by omega) ?_
                          refine jr_if_le rfl (fun m5MDhasMonths => ?_) (fun m5MDhasMonths => ?_)
                          · refine jr_ic rfl ?_
                            refine jr_zret rfl rfl rfl (Nat.zero_le _) (Nat.zero_le _) ?_
                            refine jr_if_ne rfl (fun z => absurd (by decide) z) (fun _ => ?_)
                            refine jr_ic rfl ?_
                            refine jr_iret rfl rfl (Nat.zero_le _) (Nat.zero_le _) ?_
                            first
                              | exact ⟨rfl, hRel0⟩
                              | (exfalso; omega)
                              | (exfalso; simp (disch := omega) only [Int32.lt_iff_toInt_lt, Int32.le_iff_toInt_le, ← Int32.toInt_inj, Int32.reduceToInt, nI_toInt] at c3 c2LedcanAsk c5LedcanAsk c10 c13 c26 m2MDisIn m5MDisIn m2MDisIn_2 m5MDisIn_2 m5MDhasMonths; done)
                              | (exfalso; simp (disch := omega) only [Int32.lt_iff_toInt_lt, Int32.le_iff_toInt_le, ← Int32.toInt_inj, Int32.reduceToInt, nI_toInt] at c3 c2LedcanAsk c5LedcanAsk c10 c13 c26 m2MDisIn m5MDisIn m2MDisIn_2 m5MDisIn_2 m5MDhasMonths; omega)
                          · refine jr_ic rfl ?_
                            refine jr_goto rfl ?_
                            refine jr_zret rfl rfl rfl (Nat.zero_le _) (Nat.zero_le _) ?_
                            refine jr_if_ne rfl (fun _ => ?_) (fun z => absurd z (by decide))
                            refine jr_aload rfl rfl ?_
                            refine jr_iload rfl rfl ?_
                            refine jr_iload rfl rfl ?_
                            refine jr_cv2 (mc' := 0) (ms' := 0) rfl jm_MD_countRows_n jm_MD_countRows_f rfl rfl rfl rfl rfl rfl rfl (Nat.zero_le _) (Nat.zero_le _) ?_
                            refine eM_rowsV (kk := w) hw hn0n hi e1 e3 e4 (fun S5 v5 hS5 hv5 => ?_)
                            refine jr_ist5 rfl rfl ?_
                            refine jr_iload rfl rfl ?_
                            refine jr_ic rfl ?_
                            refine jr_icmp_ge rfl (fun m24 => ?_) (fun m24 => ?_)
                            · refine jr_iload rfl rfl ?_
                              refine jr_if_eq rfl (fun m32 => ?_) (fun m32 => ?_)
                              · refine jr_aload rfl rfl ?_
                                refine jr_getR rfl rfl rfl rfl (Or.inl rfl) ?_
                                refine jr_iload rfl rfl ?_
                                refine jr_iald (len := 5) rfl rfl rfl (by omega) ?_
                                refine jr_iret rfl rfl (Nat.zero_le _) (Nat.zero_le _) ?_
                                have hvv := jl_vv hv hv5
                                have hvi5 := jl_vi (by omega) hv5
                                have hvi := congrArg Int32.toInt hvv
                                first
                                  | exact ⟨rfl, (jz_Rel_L (jz_Rel_m hRel0 hS5) f1)⟩
                                  | (exfalso; simp (disch := omega) only [Int32.lt_iff_toInt_lt, Int32.le_iff_toInt_le, ← Int32.toInt_inj, Int32.reduceToInt, nI_toInt] at c3 c2LedcanAsk c5LedcanAsk c10 c13 c26 m2MDisIn m5MDisIn m2MDisIn_2 m5MDisIn_2 m5MDhasMonths m24 m32; omega)
                                  | (subst hvv; exfalso; simp (disch := omega) only [Int32.lt_iff_toInt_lt, Int32.le_iff_toInt_le, ← Int32.toInt_inj, Int32.reduceToInt, nI_toInt] at c3 c2LedcanAsk c5LedcanAsk c10 c13 c26 m2MDisIn m5MDisIn m2MDisIn_2 m5MDisIn_2 m5MDhasMonths m24 m32; omega)
                                  | (exfalso; subst hvv; contradiction)
                              · refine jr_aload rfl rfl ?_
                                refine jr_getR rfl rfl rfl rfl (Or.inl rfl) ?_
                                refine jr_iload rfl rfl ?_
                                refine jr_iald (len := 5) rfl rfl rfl (by omega) ?_
                                refine jr_goto rfl ?_
                                refine jr_iret rfl rfl (Nat.zero_le _) (Nat.zero_le _) ?_
                                have hvv := jl_vv hv hv5
                                have hvi5 := jl_vi (by omega) hv5
                                have hvi := congrArg Int32.toInt hvv
                                first
                                  | exact ⟨rfl, (jz_Rel_L (jz_Rel_m hRel0 hS5) f1)⟩
                                  | (exfalso; simp (disch := omega) only [Int32.lt_iff_toInt_lt, Int32.le_iff_toInt_le, ← Int32.toInt_inj, Int32.reduceToInt, nI_toInt] at c3 c2LedcanAsk c5LedcanAsk c10 c13 c26 m2MDisIn m5MDisIn m2MDisIn_2 m5MDisIn_2 m5MDhasMonths m24 m32; omega)
                                  | (subst hvv; exfalso; simp (disch := omega) only [Int32.lt_iff_toInt_lt, Int32.le_iff_toInt_le, ← Int32.toInt_inj, Int32.reduceToInt, nI_toInt] at c3 c2LedcanAsk c5LedcanAsk c10 c13 c26 m2MDisIn m5MDisIn m2MDisIn_2 m5MDisIn_2 m5MDhasMonths m24 m32; omega)
                                  | (exfalso; subst hvv; contradiction)
                            · refine jr_iload rfl rfl ?_
                              refine jr_if_ne rfl (fun m26 => ?_) (fun m26 => ?_)
                              · refine jr_ic rfl ?_
                                refine jr_iret rfl rfl (Nat.zero_le _) (Nat.zero_le _) ?_
                                have hvv := jl_vv hv hv5
                                have hvi5 := jl_vi (by omega) hv5
                                have hvi := congrArg Int32.toInt hvv
                                first
                                  | exact ⟨rfl, (jz_Rel_L (jz_Rel_m hRel0 hS5) f1)⟩
                                  | (exfalso; simp (disch := omega) only [Int32.lt_iff_toInt_lt, Int32.le_iff_toInt_le, ← Int32.toInt_inj, Int32.reduceToInt, nI_toInt] at c3 c2LedcanAsk c5LedcanAsk c10 c13 c26 m2MDisIn m5MDisIn m2MDisIn_2 m5MDisIn_2 m5MDhasMonths m24 m26; omega)
                                  | (subst hvv; exfalso; simp (disch := omega) only [Int32.lt_iff_toInt_lt, Int32.le_iff_toInt_le, ← Int32.toInt_inj, Int32.reduceToInt, nI_toInt] at c3 c2LedcanAsk c5LedcanAsk c10 c13 c26 m2MDisIn m5MDisIn m2MDisIn_2 m5MDisIn_2 m5MDhasMonths m24 m26; omega)
                                  | (exfalso; subst hvv; contradiction)
                              · refine jr_ic rfl ?_
                                refine jr_goto rfl ?_
                                refine jr_iret rfl rfl (Nat.zero_le _) (Nat.zero_le _) ?_
                                have hvv := jl_vv hv hv5
                                have hvi5 := jl_vi (by omega) hv5
                                have hvi := congrArg Int32.toInt hvv
                                first
                                  | exact ⟨rfl, (jz_Rel_L (jz_Rel_m hRel0 hS5) f1)⟩
                                  | (exfalso; simp (disch := omega) only [Int32.lt_iff_toInt_lt, Int32.le_iff_toInt_le, ← Int32.toInt_inj, Int32.reduceToInt, nI_toInt] at c3 c2LedcanAsk c5LedcanAsk c10 c13 c26 m2MDisIn m5MDisIn m2MDisIn_2 m5MDisIn_2 m5MDhasMonths m24 m26; omega)
                                  | (subst hvv; exfalso; simp (disch := omega) only [Int32.lt_iff_toInt_lt, Int32.le_iff_toInt_le, ← Int32.toInt_inj, Int32.reduceToInt, nI_toInt] at c3 c2LedcanAsk c5LedcanAsk c10 c13 c26 m2MDisIn m5MDisIn m2MDisIn_2 m5MDisIn_2 m5MDhasMonths m24 m26; omega)
                                  | (exfalso; subst hvv; contradiction)
              · refine jr_ic rfl ?_
                refine jr_iret rfl rfl (Nat.zero_le _) (Nat.zero_le _) ?_
                show jx_W (jm_MD_known, d + 40, 0, 0, false, 1, _) _ 0 0 0 [some _, some _, some _, some _, some _, none] [] _
                refine jr_iload rfl rfl ?_
                refine jr_ic rfl ?_
                refine jr_ic rfl ?_
                refine jr_cs3 (mc' := 0) (ms' := 0) rfl jm_MD_isIn_n jm_MD_isIn_f rfl rfl rfl rfl rfl (Nat.zero_le _) (Nat.zero_le _) ?_
                show jx_W (jm_MD_isIn, _, _, _, _, _, _) _ 0 0 0 [some _, some _, some _] [] _
                refine jr_iload rfl rfl ?_
                refine jr_iload rfl rfl ?_
                refine jr_icmp_lt rfl (fun m2MDisIn => ?_) (fun m2MDisIn => ?_)
                · refine jr_ic rfl ?_
                  refine jr_zret rfl rfl rfl (Nat.zero_le _) (Nat.zero_le _) ?_
                  refine jr_if_eq rfl (fun _ => ?_) (fun z => absurd (by decide) z)
                  refine jr_ic rfl ?_
                  refine jr_iret rfl rfl (Nat.zero_le _) (Nat.zero_le _) ?_
                  first
                    | exact ⟨rfl, hRel0⟩
                    | (exfalso; omega)
                    | (exfalso; simp (disch := omega) only [Int32.lt_iff_toInt_lt, Int32.le_iff_toInt_le, ← Int32.toInt_inj, Int32.reduceToInt, nI_toInt] at c3 c2LedcanAsk c5LedcanAsk c10 c13 m2MDisIn; done)
                    | (exfalso; simp (disch := omega) only [Int32.lt_iff_toInt_lt, Int32.le_iff_toInt_le, ← Int32.toInt_inj, Int32.reduceToInt, nI_toInt] at c3 c2LedcanAsk c5LedcanAsk c10 c13 m2MDisIn; omega)
                · refine jr_iload rfl rfl ?_
                  refine jr_iload rfl rfl ?_
                  refine jr_icmp_gt rfl (fun m5MDisIn => ?_) (fun m5MDisIn => ?_)
                  · refine jr_ic rfl ?_
                    refine jr_zret rfl rfl rfl (Nat.zero_le _) (Nat.zero_le _) ?_
                    refine jr_if_eq rfl (fun _ => ?_) (fun z => absurd (by decide) z)
                    refine jr_ic rfl ?_
                    refine jr_iret rfl rfl (Nat.zero_le _) (Nat.zero_le _) ?_
                    first
                      | exact ⟨rfl, hRel0⟩
                      | (exfalso; omega)
                      | (exfalso; simp (disch := omega) only [Int32.lt_iff_toInt_lt, Int32.le_iff_toInt_le, ← Int32.toInt_inj, Int32.reduceToInt, nI_toInt] at c3 c2LedcanAsk c5LedcanAsk c10 c13 m2MDisIn m5MDisIn; done)
                      | (exfalso; simp (disch := omega) only [Int32.lt_iff_toInt_lt, Int32.le_iff_toInt_le, ← Int32.toInt_inj, Int32.reduceToInt, nI_toInt] at c3 c2LedcanAsk c5LedcanAsk c10 c13 m2MDisIn m5MDisIn; omega)
                  · refine jr_ic rfl ?_
                    refine jr_goto rfl ?_
                    refine jr_zret rfl rfl rfl (Nat.zero_le _) (Nat.zero_le _) ?_
                    refine jr_if_eq rfl (fun z => absurd z (by decide)) (fun _ => ?_)
                    refine jr_iload rfl rfl ?_
                    refine jr_ic rfl ?_
                    refine jr_iload rfl rfl ?_
                    refine jr_ic rfl ?_
                    refine jr_isub rfl ?_
                    refine jr_cs3 (mc' := 0) (ms' := 0) rfl jm_MD_isIn_n jm_MD_isIn_f rfl rfl rfl rfl rfl (Nat.zero_le _) (Nat.zero_le _) ?_
                    show jx_W (jm_MD_isIn, _, _, _, _, _, _) _ 0 0 0 [some _, some _, some _] [] _
                    refine jr_iload rfl rfl ?_
                    refine jr_iload rfl rfl ?_
                    refine jr_icmp_lt rfl (fun m2MDisIn_2 => ?_) (fun m2MDisIn_2 => ?_)
                    · refine jr_ic rfl ?_
                      refine jr_zret rfl rfl rfl (Nat.zero_le _) (Nat.zero_le _) ?_
                      refine jr_if_eq rfl (fun _ => ?_) (fun z => absurd (by decide) z)
                      refine jr_ic rfl ?_
                      refine jr_iret rfl rfl (Nat.zero_le _) (Nat.zero_le _) ?_
                      first
                        | exact ⟨rfl, hRel0⟩
                        | (exfalso; omega)
                        | (exfalso; simp (disch := omega) only [Int32.lt_iff_toInt_lt, Int32.le_iff_toInt_le, ← Int32.toInt_inj, Int32.reduceToInt, nI_toInt] at c3 c2LedcanAsk c5LedcanAsk c10 c13 m2MDisIn m5MDisIn m2MDisIn_2; done)
                        | (exfalso; simp (disch := omega) only [Int32.lt_iff_toInt_lt, Int32.le_iff_toInt_le, ← Int32.toInt_inj, Int32.reduceToInt, nI_toInt] at c3 c2LedcanAsk c5LedcanAsk c10 c13 m2MDisIn m5MDisIn m2MDisIn_2; omega)
                    · refine jr_iload rfl rfl ?_
                      refine jr_iload rfl rfl ?_
                      refine jr_icmp_gt rfl (fun m5MDisIn_2 => ?_) (fun m5MDisIn_2 => ?_)
                      · refine jr_ic rfl ?_
                        refine jr_zret rfl rfl rfl (Nat.zero_le _) (Nat.zero_le _) ?_
                        refine jr_if_eq rfl (fun _ => ?_) (fun z => absurd (by decide) z)
                        refine jr_ic rfl ?_
                        refine jr_iret rfl rfl (Nat.zero_le _) (Nat.zero_le _) ?_
                        first
                          | exact ⟨rfl, hRel0⟩
                          | (exfalso; omega)
                          | (exfalso; simp (disch := omega) only [Int32.lt_iff_toInt_lt, Int32.le_iff_toInt_le, ← Int32.toInt_inj, Int32.reduceToInt, nI_toInt] at c3 c2LedcanAsk c5LedcanAsk c10 c13 m2MDisIn m5MDisIn m2MDisIn_2 m5MDisIn_2; done)
                          | (exfalso; simp (disch := omega) only [Int32.lt_iff_toInt_lt, Int32.le_iff_toInt_le, ← Int32.toInt_inj, Int32.reduceToInt, nI_toInt] at c3 c2LedcanAsk c5LedcanAsk c10 c13 m2MDisIn m5MDisIn m2MDisIn_2 m5MDisIn_2; omega)
                      · refine jr_ic rfl ?_
                        refine jr_goto rfl ?_
                        refine jr_zret rfl rfl rfl (Nat.zero_le _) (Nat.zero_le _) ?_
                        refine jr_if_eq rfl (fun z => absurd z (by decide)) (fun _ => ?_)
                        refine jr_aload rfl rfl ?_
                        refine jr_cv0 (mc' := 0) (ms' := 0) rfl jm_MD_hasMonths_n jm_MD_hasMonths_f rfl rfl rfl rfl rfl rfl rfl (Nat.zero_le _) (Nat.zero_le _) ?_
                        show jx_W (jm_MD_hasMonths, _, _, _, _, _, _) _ 0 0 0 [some _] [] _
                        refine jr_aload rfl rfl ?_
                        refine jr_getR rfl rfl rfl rfl (Or.inl rfl) ?_
                        refine jr_aload rfl rfl ?_
                        refine jr_getI rfl rfl ?_
                        refine jr_iald (len := 2) rfl rfl hw.1 (by omega) ?_
                        refine jr_if_le rfl (fun m5MDhasMonths => ?_) (fun m5MDhasMonths => ?_)
                        · refine jr_ic rfl ?_
                          refine jr_zret rfl rfl rfl (Nat.zero_le _) (Nat.zero_le _) ?_
                          refine jr_if_ne rfl (fun z => absurd (by decide) z) (fun _ => ?_)
                          refine jr_ic rfl ?_
                          refine jr_iret rfl rfl (Nat.zero_le _) (Nat.zero_le _) ?_
                          first
                            | exact ⟨rfl, hRel0⟩
                            | (exfalso; omega)
                            | (exfalso; simp (disch := omega) only [Int32.lt_iff_toInt_lt, Int32.le_iff_toInt_le, ← Int32.toInt_inj, Int32.reduceToInt, nI_toInt] at c3 c2LedcanAsk c5LedcanAsk c10 c13 m2MDisIn m5MDisIn m2MDisIn_2 m5MDisIn_2 m5MDhasMonths; done)
                            | (exfalso; simp (disch := omega) only [Int32.lt_iff_toInt_lt, Int32.le_iff_toInt_le, ← Int32.toInt_inj, Int32.reduceToInt, nI_toInt] at c3 c2LedcanAsk c5LedcanAsk c10 c13 m2MDisIn m5MDisIn m2MDisIn_2 m5MDisIn_2 m5MDhasMonths; omega)
                        · refine jr_ic rfl ?_
                          refine jr_goto rfl ?_
                          refine jr_zret rfl rfl rfl (Nat.zero_le _) (Nat.zero_le _) ?_
                          refine jr_if_ne rfl (fun _ => ?_) (fun z => absurd z (by decide))
                          refine jr_aload rfl rfl ?_
                          refine jr_iload rfl rfl ?_
                          refine jr_iload rfl rfl ?_
                          refine jr_cv2 (mc' := 0) (ms' := 0) rfl jm_MD_countRows_n jm_MD_countRows_f rfl rfl rfl rfl rfl rfl rfl (Nat.zero_le _) (Nat.zero_le _) ?_
                          refine eM_rowsV (kk := w) hw hn0n hi e1 e3 e4 (fun S5 v5 hS5 hv5 => ?_)
                          refine jr_ist5 rfl rfl ?_
                          refine jr_iload rfl rfl ?_
                          refine jr_ic rfl ?_
                          refine jr_icmp_ge rfl (fun m24 => ?_) (fun m24 => ?_)
                          · refine jr_iload rfl rfl ?_
                            refine jr_if_eq rfl (fun m32 => ?_) (fun m32 => ?_)
                            · refine jr_aload rfl rfl ?_
                              refine jr_getR rfl rfl rfl rfl (Or.inl rfl) ?_
                              refine jr_iload rfl rfl ?_
                              refine jr_iald (len := 5) rfl rfl rfl (by omega) ?_
                              refine jr_iret rfl rfl (Nat.zero_le _) (Nat.zero_le _) ?_
                              first
                                | exact ⟨rfl, hRel0⟩
                                | (exfalso; omega)
                                | (exfalso; simp (disch := omega) only [Int32.lt_iff_toInt_lt, Int32.le_iff_toInt_le, ← Int32.toInt_inj, Int32.reduceToInt, nI_toInt] at c3 c2LedcanAsk c5LedcanAsk c10 c13 m2MDisIn m5MDisIn m2MDisIn_2 m5MDisIn_2 m5MDhasMonths m24 m32; done)
                                | (exfalso; simp (disch := omega) only [Int32.lt_iff_toInt_lt, Int32.le_iff_toInt_le, ← Int32.toInt_inj, Int32.reduceToInt, nI_toInt] at c3 c2LedcanAsk c5LedcanAsk c10 c13 m2MDisIn m5MDisIn m2MDisIn_2 m5MDisIn_2 m5MDhasMonths m24 m32; omega)
                            · refine jr_aload rfl rfl ?_
                              refine jr_getR rfl rfl rfl rfl (Or.inl rfl) ?_
                              refine jr_iload rfl rfl ?_
                              refine jr_iald (len := 5) rfl rfl rfl (by omega) ?_
                              refine jr_goto rfl ?_
                              refine jr_iret rfl rfl (Nat.zero_le _) (Nat.zero_le _) ?_
                              first
                                | exact ⟨rfl, hRel0⟩
                                | (exfalso; omega)
                                | (exfalso; simp (disch := omega) only [Int32.lt_iff_toInt_lt, Int32.le_iff_toInt_le, ← Int32.toInt_inj, Int32.reduceToInt, nI_toInt] at c3 c2LedcanAsk c5LedcanAsk c10 c13 m2MDisIn m5MDisIn m2MDisIn_2 m5MDisIn_2 m5MDhasMonths m24 m32; done)
                                | (exfalso; simp (disch := omega) only [Int32.lt_iff_toInt_lt, Int32.le_iff_toInt_le, ← Int32.toInt_inj, Int32.reduceToInt, nI_toInt] at c3 c2LedcanAsk c5LedcanAsk c10 c13 m2MDisIn m5MDisIn m2MDisIn_2 m5MDisIn_2 m5MDhasMonths m24 m32; omega)
                          · refine jr_iload rfl rfl ?_
                            refine jr_if_ne rfl (fun m26 => ?_) (fun m26 => ?_)
                            · refine jr_ic rfl ?_
                              refine jr_iret rfl rfl (Nat.zero_le _) (Nat.zero_le _) ?_
                              first
                                | exact ⟨rfl, hRel0⟩
                                | (exfalso; omega)
                                | (exfalso; simp (disch := omega) only [Int32.lt_iff_toInt_lt, Int32.le_iff_toInt_le, ← Int32.toInt_inj, Int32.reduceToInt, nI_toInt] at c3 c2LedcanAsk c5LedcanAsk c10 c13 m2MDisIn m5MDisIn m2MDisIn_2 m5MDisIn_2 m5MDhasMonths m24 m26; done)
                                | (exfalso; simp (disch := omega) only [Int32.lt_iff_toInt_lt, Int32.le_iff_toInt_le, ← Int32.toInt_inj, Int32.reduceToInt, nI_toInt] at c3 c2LedcanAsk c5LedcanAsk c10 c13 m2MDisIn m5MDisIn m2MDisIn_2 m5MDisIn_2 m5MDhasMonths m24 m26; omega)
                            · refine jr_ic rfl ?_
                              refine jr_goto rfl ?_
                              refine jr_iret rfl rfl (Nat.zero_le _) (Nat.zero_le _) ?_
                              first
                                | exact ⟨rfl, hRel0⟩
                                | (exfalso; omega)
                                | (exfalso; simp (disch := omega) only [Int32.lt_iff_toInt_lt, Int32.le_iff_toInt_le, ← Int32.toInt_inj, Int32.reduceToInt, nI_toInt] at c3 c2LedcanAsk c5LedcanAsk c10 c13 m2MDisIn m5MDisIn m2MDisIn_2 m5MDisIn_2 m5MDhasMonths m24 m26; done)
                                | (exfalso; simp (disch := omega) only [Int32.lt_iff_toInt_lt, Int32.le_iff_toInt_le, ← Int32.toInt_inj, Int32.reduceToInt, nI_toInt] at c3 c2LedcanAsk c5LedcanAsk c10 c13 m2MDisIn m5MDisIn m2MDisIn_2 m5MDisIn_2 m5MDhasMonths m24 m26; omega)
    · show jx_W (jm_JV_known, d + 40, 0, 0, false, 0, _) _ 0 0 0 [some (jv_r 10 0), some (jv_i (nI i)), some (jv_i y), some (jv_i z), some (jv_i w), none] [] _
      refine jr_aload rfl rfl ?_
      refine jr_getM rfl rfl rfl rfl hto ?_
      refine jr_getI rfl rfl ?_
      refine jr_if_eq rfl (fun c3 => ?_) (fun c3 => ?_)
      · refine jr_ic rfl ?_
        refine jr_iret rfl rfl (Nat.zero_le _) (Nat.zero_le _) ?_
        show jx_W (jm_MD_known, d + 40, 0, 0, false, 1, _) _ 0 0 0 [some _, some _, some _, some _, some _, none] [] _
        refine jr_iload rfl rfl ?_
        refine jr_ic rfl ?_
        refine jr_ic rfl ?_
        refine jr_cs3 (mc' := 0) (ms' := 0) rfl jm_MD_isIn_n jm_MD_isIn_f rfl rfl rfl rfl rfl (Nat.zero_le _) (Nat.zero_le _) ?_
        show jx_W (jm_MD_isIn, _, _, _, _, _, _) _ 0 0 0 [some _, some _, some _] [] _
        refine jr_iload rfl rfl ?_
        refine jr_iload rfl rfl ?_
        refine jr_icmp_lt rfl (fun m2MDisIn => ?_) (fun m2MDisIn => ?_)
        · refine jr_ic rfl ?_
          refine jr_zret rfl rfl rfl (Nat.zero_le _) (Nat.zero_le _) ?_
          refine jr_if_eq rfl (fun _ => ?_) (fun z => absurd (by decide) z)
          refine jr_ic rfl ?_
          refine jr_iret rfl rfl (Nat.zero_le _) (Nat.zero_le _) ?_
          first
            | exact ⟨rfl, hRel0⟩
            | (exfalso; omega)
            | (exfalso; simp (disch := omega) only [Int32.lt_iff_toInt_lt, Int32.le_iff_toInt_le, ← Int32.toInt_inj, Int32.reduceToInt, nI_toInt] at c3 m2MDisIn; done)
            | (exfalso; simp (disch := omega) only [Int32.lt_iff_toInt_lt, Int32.le_iff_toInt_le, ← Int32.toInt_inj, Int32.reduceToInt, nI_toInt] at c3 m2MDisIn; omega)
        · refine jr_iload rfl rfl ?_
          refine jr_iload rfl rfl ?_
          refine jr_icmp_gt rfl (fun m5MDisIn => ?_) (fun m5MDisIn => ?_)
          · refine jr_ic rfl ?_
            refine jr_zret rfl rfl rfl (Nat.zero_le _) (Nat.zero_le _) ?_
            refine jr_if_eq rfl (fun _ => ?_) (fun z => absurd (by decide) z)
            refine jr_ic rfl ?_
            refine jr_iret rfl rfl (Nat.zero_le _) (Nat.zero_le _) ?_
            first
              | exact ⟨rfl, hRel0⟩
              | (exfalso; omega)
              | (exfalso; simp (disch := omega) only [Int32.lt_iff_toInt_lt, Int32.le_iff_toInt_le, ← Int32.toInt_inj, Int32.reduceToInt, nI_toInt] at c3 m2MDisIn m5MDisIn; done)
              | (exfalso; simp (disch := omega) only [Int32.lt_iff_toInt_lt, Int32.le_iff_toInt_le, ← Int32.toInt_inj, Int32.reduceToInt, nI_toInt] at c3 m2MDisIn m5MDisIn; omega)
          · refine jr_ic rfl ?_
            refine jr_goto rfl ?_
            refine jr_zret rfl rfl rfl (Nat.zero_le _) (Nat.zero_le _) ?_
            refine jr_if_eq rfl (fun z => absurd z (by decide)) (fun _ => ?_)
            refine jr_iload rfl rfl ?_
            refine jr_ic rfl ?_
            refine jr_iload rfl rfl ?_
            refine jr_ic rfl ?_
            refine jr_isub rfl ?_
            refine jr_cs3 (mc' := 0) (ms' := 0) rfl jm_MD_isIn_n jm_MD_isIn_f rfl rfl rfl rfl rfl (Nat.zero_le _) (Nat.zero_le _) ?_
            show jx_W (jm_MD_isIn, _, _, _, _, _, _) _ 0 0 0 [some _, some _, some _] [] _
            refine jr_iload rfl rfl ?_
            refine jr_iload rfl rfl ?_
            refine jr_icmp_lt rfl (fun m2MDisIn_2 => ?_) (fun m2MDisIn_2 => ?_)
            · refine jr_ic rfl ?_
              refine jr_zret rfl rfl rfl (Nat.zero_le _) (Nat.zero_le _) ?_
              refine jr_if_eq rfl (fun _ => ?_) (fun z => absurd (by decide) z)
              refine jr_ic rfl ?_
              refine jr_iret rfl rfl (Nat.zero_le _) (Nat.zero_le _) ?_
              first
                | exact ⟨rfl, hRel0⟩
                | (exfalso; omega)
                | (exfalso; simp (disch := omega) only [Int32.lt_iff_toInt_lt, Int32.le_iff_toInt_le, ← Int32.toInt_inj, Int32.reduceToInt, nI_toInt] at c3 m2MDisIn m5MDisIn m2MDisIn_2; done)
                | (exfalso; simp (disch := omega) only [Int32.lt_iff_toInt_lt, Int32.le_iff_toInt_le, ← Int32.toInt_inj, Int32.reduceToInt, nI_toInt] at c3 m2MDisIn m5MDisIn m2MDisIn_2; omega)
            · refine jr_iload rfl rfl ?_
              refine jr_iload rfl rfl ?_
              refine jr_icmp_gt rfl (fun m5MDisIn_2 => ?_) (fun m5MDisIn_2 => ?_)
              · refine jr_ic rfl ?_
                refine jr_zret rfl rfl rfl (Nat.zero_le _) (Nat.zero_le _) ?_
                refine jr_if_eq rfl (fun _ => ?_) (fun z => absurd (by decide) z)
                refine jr_ic rfl ?_
                refine jr_iret rfl rfl (Nat.zero_le _) (Nat.zero_le _) ?_
                first
                  | exact ⟨rfl, hRel0⟩
                  | (exfalso; omega)
                  | (exfalso; simp (disch := omega) only [Int32.lt_iff_toInt_lt, Int32.le_iff_toInt_le, ← Int32.toInt_inj, Int32.reduceToInt, nI_toInt] at c3 m2MDisIn m5MDisIn m2MDisIn_2 m5MDisIn_2; done)
                  | (exfalso; simp (disch := omega) only [Int32.lt_iff_toInt_lt, Int32.le_iff_toInt_le, ← Int32.toInt_inj, Int32.reduceToInt, nI_toInt] at c3 m2MDisIn m5MDisIn m2MDisIn_2 m5MDisIn_2; omega)
              · refine jr_ic rfl ?_
                refine jr_goto rfl ?_
                refine jr_zret rfl rfl rfl (Nat.zero_le _) (Nat.zero_le _) ?_
                refine jr_if_eq rfl (fun z => absurd z (by decide)) (fun _ => ?_)
                refine jr_aload rfl rfl ?_
                refine jr_cv0 (mc' := 0) (ms' := 0) rfl jm_MD_hasMonths_n jm_MD_hasMonths_f rfl rfl rfl rfl rfl rfl rfl (Nat.zero_le _) (Nat.zero_le _) ?_
                show jx_W (jm_MD_hasMonths, _, _, _, _, _, _) _ 0 0 0 [some _] [] _
                refine jr_aload rfl rfl ?_
                refine jr_getR rfl rfl rfl rfl (Or.inl rfl) ?_
                refine jr_aload rfl rfl ?_
                refine jr_getI rfl rfl ?_
                refine jr_iald (len := 2) rfl rfl hw.1 (by omega) ?_
                refine jr_if_le rfl (fun m5MDhasMonths => ?_) (fun m5MDhasMonths => ?_)
                · refine jr_ic rfl ?_
                  refine jr_zret rfl rfl rfl (Nat.zero_le _) (Nat.zero_le _) ?_
                  refine jr_if_ne rfl (fun z => absurd (by decide) z) (fun _ => ?_)
                  refine jr_ic rfl ?_
                  refine jr_iret rfl rfl (Nat.zero_le _) (Nat.zero_le _) ?_
                  first
                    | exact ⟨rfl, hRel0⟩
                    | (exfalso; omega)
                    | (exfalso; simp (disch := omega) only [Int32.lt_iff_toInt_lt, Int32.le_iff_toInt_le, ← Int32.toInt_inj, Int32.reduceToInt, nI_toInt] at c3 m2MDisIn m5MDisIn m2MDisIn_2 m5MDisIn_2 m5MDhasMonths; done)
                    | (exfalso; simp (disch := omega) only [Int32.lt_iff_toInt_lt, Int32.le_iff_toInt_le, ← Int32.toInt_inj, Int32.reduceToInt, nI_toInt] at c3 m2MDisIn m5MDisIn m2MDisIn_2 m5MDisIn_2 m5MDhasMonths; omega)
                · refine jr_ic rfl ?_
                  refine jr_goto rfl ?_
                  refine jr_zret rfl rfl rfl (Nat.zero_le _) (Nat.zero_le _) ?_
                  refine jr_if_ne rfl (fun _ => ?_) (fun z => absurd z (by decide))
                  refine jr_aload rfl rfl ?_
                  refine jr_iload rfl rfl ?_
                  refine jr_iload rfl rfl ?_
                  refine jr_cv2 (mc' := 0) (ms' := 0) rfl jm_MD_countRows_n jm_MD_countRows_f rfl rfl rfl rfl rfl rfl rfl (Nat.zero_le _) (Nat.zero_le _) ?_
                  first
                    | (exfalso; omega)
                    | (exfalso; simp (disch := omega) only [Int32.lt_iff_toInt_lt, Int32.le_iff_toInt_le, ← Int32.toInt_inj, Int32.reduceToInt, nI_toInt] at c3 m2MDisIn m5MDisIn m2MDisIn_2 m5MDisIn_2 m5MDhasMonths; done)
                    | (exfalso; simp (disch := omega) only [Int32.lt_iff_toInt_lt, Int32.le_iff_toInt_le, ← Int32.toInt_inj, Int32.reduceToInt, nI_toInt] at c3 m2MDisIn m5MDisIn m2MDisIn_2 m5MDisIn_2 m5MDhasMonths; omega)
      · refine jr_aload rfl rfl ?_
        refine jr_getR rfl rfl rfl rfl (Or.inl rfl) ?_
        refine jr_iload rfl rfl ?_
        refine jr_cv1 (mc' := 0) (ms' := 0) rfl jm_Led_canAsk_n jm_Led_canAsk_f rfl rfl rfl rfl rfl rfl rfl (Nat.zero_le _) (Nat.zero_le _) ?_
        show jx_W (jm_Led_canAsk, _, _, _, _, _, _) _ 0 0 0 [some _, some _] [] _
        refine jr_iload rfl rfl ?_
        refine jr_ic rfl ?_
        refine jr_icmp_lt rfl (fun c2LedcanAsk => ?_) (fun c2LedcanAsk => ?_)
        · refine jr_ic rfl ?_
          refine jr_zret rfl rfl rfl (Nat.zero_le _) (Nat.zero_le _) ?_
          refine jr_if_eq rfl (fun _ => ?_) (fun z => absurd (by decide) z)
          refine jr_ic rfl ?_
          refine jr_iret rfl rfl (Nat.zero_le _) (Nat.zero_le _) ?_
          show jx_W (jm_MD_known, d + 40, 0, 0, false, 1, _) _ 0 0 0 [some _, some _, some _, some _, some _, none] [] _
          refine jr_iload rfl rfl ?_
          refine jr_ic rfl ?_
          refine jr_ic rfl ?_
          refine jr_cs3 (mc' := 0) (ms' := 0) rfl jm_MD_isIn_n jm_MD_isIn_f rfl rfl rfl rfl rfl (Nat.zero_le _) (Nat.zero_le _) ?_
          show jx_W (jm_MD_isIn, _, _, _, _, _, _) _ 0 0 0 [some _, some _, some _] [] _
          refine jr_iload rfl rfl ?_
          refine jr_iload rfl rfl ?_
          refine jr_icmp_lt rfl (fun m2MDisIn => ?_) (fun m2MDisIn => ?_)
          · refine jr_ic rfl ?_
            refine jr_zret rfl rfl rfl (Nat.zero_le _) (Nat.zero_le _) ?_
            refine jr_if_eq rfl (fun _ => ?_) (fun z => absurd (by decide) z)
            refine jr_ic rfl ?_
            refine jr_iret rfl rfl (Nat.zero_le _) (Nat.zero_le _) ?_
            first
              | exact ⟨rfl, hRel0⟩
              | (exfalso; omega)
              | (exfalso; simp (disch := omega) only [Int32.lt_iff_toInt_lt, Int32.le_iff_toInt_le, ← Int32.toInt_inj, Int32.reduceToInt, nI_toInt] at c3 c2LedcanAsk m2MDisIn; done)
              | (exfalso; simp (disch := omega) only [Int32.lt_iff_toInt_lt, Int32.le_iff_toInt_le, ← Int32.toInt_inj, Int32.reduceToInt, nI_toInt] at c3 c2LedcanAsk m2MDisIn; omega)
          · refine jr_iload rfl rfl ?_
            refine jr_iload rfl rfl ?_
            refine jr_icmp_gt rfl (fun m5MDisIn => ?_) (fun m5MDisIn => ?_)
            · refine jr_ic rfl ?_
              refine jr_zret rfl rfl rfl (Nat.zero_le _) (Nat.zero_le _) ?_
              refine jr_if_eq rfl (fun _ => ?_) (fun z => absurd (by decide) z)
              refine jr_ic rfl ?_
              refine jr_iret rfl rfl (Nat.zero_le _) (Nat.zero_le _) ?_
              first
                | exact ⟨rfl, hRel0⟩
                | (exfalso; omega)
                | (exfalso; simp (disch := omega) only [Int32.lt_iff_toInt_lt, Int32.le_iff_toInt_le, ← Int32.toInt_inj, Int32.reduceToInt, nI_toInt] at c3 c2LedcanAsk m2MDisIn m5MDisIn; done)
                | (exfalso; simp (disch := omega) only [Int32.lt_iff_toInt_lt, Int32.le_iff_toInt_le, ← Int32.toInt_inj, Int32.reduceToInt, nI_toInt] at c3 c2LedcanAsk m2MDisIn m5MDisIn; omega)
            · refine jr_ic rfl ?_
              refine jr_goto rfl ?_
              refine jr_zret rfl rfl rfl (Nat.zero_le _) (Nat.zero_le _) ?_
              refine jr_if_eq rfl (fun z => absurd z (by decide)) (fun _ => ?_)
              refine jr_iload rfl rfl ?_
              refine jr_ic rfl ?_
              refine jr_iload rfl rfl ?_
              refine jr_ic rfl ?_
              refine jr_isub rfl ?_
              refine jr_cs3 (mc' := 0) (ms' := 0) rfl jm_MD_isIn_n jm_MD_isIn_f rfl rfl rfl rfl rfl (Nat.zero_le _) (Nat.zero_le _) ?_
              show jx_W (jm_MD_isIn, _, _, _, _, _, _) _ 0 0 0 [some _, some _, some _] [] _
              refine jr_iload rfl rfl ?_
              refine jr_iload rfl rfl ?_
              refine jr_icmp_lt rfl (fun m2MDisIn_2 => ?_) (fun m2MDisIn_2 => ?_)
              · refine jr_ic rfl ?_
                refine jr_zret rfl rfl rfl (Nat.zero_le _) (Nat.zero_le _) ?_
                refine jr_if_eq rfl (fun _ => ?_) (fun z => absurd (by decide) z)
                refine jr_ic rfl ?_
                refine jr_iret rfl rfl (Nat.zero_le _) (Nat.zero_le _) ?_
                first
                  | exact ⟨rfl, hRel0⟩
                  | (exfalso; omega)
                  | (exfalso; simp (disch := omega) only [Int32.lt_iff_toInt_lt, Int32.le_iff_toInt_le, ← Int32.toInt_inj, Int32.reduceToInt, nI_toInt] at c3 c2LedcanAsk m2MDisIn m5MDisIn m2MDisIn_2; done)
                  | (exfalso; simp (disch := omega) only [Int32.lt_iff_toInt_lt, Int32.le_iff_toInt_le, ← Int32.toInt_inj, Int32.reduceToInt, nI_toInt] at c3 c2LedcanAsk m2MDisIn m5MDisIn m2MDisIn_2; omega)
              · refine jr_iload rfl rfl ?_
                refine jr_iload rfl rfl ?_
                refine jr_icmp_gt rfl (fun m5MDisIn_2 => ?_) (fun m5MDisIn_2 => ?_)
                · refine jr_ic rfl ?_
                  refine jr_zret rfl rfl rfl (Nat.zero_le _) (Nat.zero_le _) ?_
                  refine jr_if_eq rfl (fun _ => ?_) (fun z => absurd (by decide) z)
                  refine jr_ic rfl ?_
                  refine jr_iret rfl rfl (Nat.zero_le _) (Nat.zero_le _) ?_
                  first
                    | exact ⟨rfl, hRel0⟩
                    | (exfalso; omega)
                    | (exfalso; simp (disch := omega) only [Int32.lt_iff_toInt_lt, Int32.le_iff_toInt_le, ← Int32.toInt_inj, Int32.reduceToInt, nI_toInt] at c3 c2LedcanAsk m2MDisIn m5MDisIn m2MDisIn_2 m5MDisIn_2; done)
                    | (exfalso; simp (disch := omega) only [Int32.lt_iff_toInt_lt, Int32.le_iff_toInt_le, ← Int32.toInt_inj, Int32.reduceToInt, nI_toInt] at c3 c2LedcanAsk m2MDisIn m5MDisIn m2MDisIn_2 m5MDisIn_2; omega)
                · refine jr_ic rfl ?_
                  refine jr_goto rfl ?_
                  refine jr_zret rfl rfl rfl (Nat.zero_le _) (Nat.zero_le _) ?_
                  refine jr_if_eq rfl (fun z => absurd z (by decide)) (fun _ => ?_)
                  refine jr_aload rfl rfl ?_
                  refine jr_cv0 (mc' := 0) (ms' := 0) rfl jm_MD_hasMonths_n jm_MD_hasMonths_f rfl rfl rfl rfl rfl rfl rfl (Nat.zero_le _) (Nat.zero_le _) ?_
                  show jx_W (jm_MD_hasMonths, _, _, _, _, _, _) _ 0 0 0 [some _] [] _
                  refine jr_aload rfl rfl ?_
                  refine jr_getR rfl rfl rfl rfl (Or.inl rfl) ?_
                  refine jr_aload rfl rfl ?_
                  refine jr_getI rfl rfl ?_
                  refine jr_iald (len := 2) rfl rfl hw.1 (by omega) ?_
                  refine jr_if_le rfl (fun m5MDhasMonths => ?_) (fun m5MDhasMonths => ?_)
                  · refine jr_ic rfl ?_
                    refine jr_zret rfl rfl rfl (Nat.zero_le _) (Nat.zero_le _) ?_
                    refine jr_if_ne rfl (fun z => absurd (by decide) z) (fun _ => ?_)
                    refine jr_ic rfl ?_
                    refine jr_iret rfl rfl (Nat.zero_le _) (Nat.zero_le _) ?_
                    first
                      | exact ⟨rfl, hRel0⟩
                      | (exfalso; omega)
                      | (exfalso; simp (disch := omega) only [Int32.lt_iff_toInt_lt, Int32.le_iff_toInt_le, ← Int32.toInt_inj, Int32.reduceToInt, nI_toInt] at c3 c2LedcanAsk m2MDisIn m5MDisIn m2MDisIn_2 m5MDisIn_2 m5MDhasMonths; done)
                      | (exfalso; simp (disch := omega) only [Int32.lt_iff_toInt_lt, Int32.le_iff_toInt_le, ← Int32.toInt_inj, Int32.reduceToInt, nI_toInt] at c3 c2LedcanAsk m2MDisIn m5MDisIn m2MDisIn_2 m5MDisIn_2 m5MDhasMonths; omega)
                  · refine jr_ic rfl ?_
                    refine jr_goto rfl ?_
                    refine jr_zret rfl rfl rfl (Nat.zero_le _) (Nat.zero_le _) ?_
                    refine jr_if_ne rfl (fun _ => ?_) (fun z => absurd z (by decide))
                    refine jr_aload rfl rfl ?_
                    refine jr_iload rfl rfl ?_
                    refine jr_iload rfl rfl ?_
                    refine jr_cv2 (mc' := 0) (ms' := 0) rfl jm_MD_countRows_n jm_MD_countRows_f rfl rfl rfl rfl rfl rfl rfl (Nat.zero_le _) (Nat.zero_le _) ?_
                    first
                      | (exfalso; omega)
                      | (exfalso; simp (disch := omega) only [Int32.lt_iff_toInt_lt, Int32.le_iff_toInt_le, ← Int32.toInt_inj, Int32.reduceToInt, nI_toInt] at c3 c2LedcanAsk m2MDisIn m5MDisIn m2MDisIn_2 m5MDisIn_2 m5MDhasMonths; done)
                      | (exfalso; simp (disch := omega) only [Int32.lt_iff_toInt_lt, Int32.le_iff_toInt_le, ← Int32.toInt_inj, Int32.reduceToInt, nI_toInt] at c3 c2LedcanAsk m2MDisIn m5MDisIn m2MDisIn_2 m5MDisIn_2 m5MDhasMonths; omega)
        · refine jr_iload rfl rfl ?_
          refine jr_ic rfl ?_
          refine jr_icmp_gt rfl (fun c5LedcanAsk => ?_) (fun c5LedcanAsk => ?_)
          · refine jr_ic rfl ?_
            refine jr_zret rfl rfl rfl (Nat.zero_le _) (Nat.zero_le _) ?_
            refine jr_if_eq rfl (fun _ => ?_) (fun z => absurd (by decide) z)
            refine jr_ic rfl ?_
            refine jr_iret rfl rfl (Nat.zero_le _) (Nat.zero_le _) ?_
            show jx_W (jm_MD_known, d + 40, 0, 0, false, 1, _) _ 0 0 0 [some _, some _, some _, some _, some _, none] [] _
            refine jr_iload rfl rfl ?_
            refine jr_ic rfl ?_
            refine jr_ic rfl ?_
            refine jr_cs3 (mc' := 0) (ms' := 0) rfl jm_MD_isIn_n jm_MD_isIn_f rfl rfl rfl rfl rfl (Nat.zero_le _) (Nat.zero_le _) ?_
            show jx_W (jm_MD_isIn, _, _, _, _, _, _) _ 0 0 0 [some _, some _, some _] [] _
            refine jr_iload rfl rfl ?_
            refine jr_iload rfl rfl ?_
            refine jr_icmp_lt rfl (fun m2MDisIn => ?_) (fun m2MDisIn => ?_)
            · refine jr_ic rfl ?_
              refine jr_zret rfl rfl rfl (Nat.zero_le _) (Nat.zero_le _) ?_
              refine jr_if_eq rfl (fun _ => ?_) (fun z => absurd (by decide) z)
              refine jr_ic rfl ?_
              refine jr_iret rfl rfl (Nat.zero_le _) (Nat.zero_le _) ?_
              first
                | exact ⟨rfl, hRel0⟩
                | (exfalso; omega)
                | (exfalso; simp (disch := omega) only [Int32.lt_iff_toInt_lt, Int32.le_iff_toInt_le, ← Int32.toInt_inj, Int32.reduceToInt, nI_toInt] at c3 c2LedcanAsk c5LedcanAsk m2MDisIn; done)
                | (exfalso; simp (disch := omega) only [Int32.lt_iff_toInt_lt, Int32.le_iff_toInt_le, ← Int32.toInt_inj, Int32.reduceToInt, nI_toInt] at c3 c2LedcanAsk c5LedcanAsk m2MDisIn; omega)
            · refine jr_iload rfl rfl ?_
              refine jr_iload rfl rfl ?_
              refine jr_icmp_gt rfl (fun m5MDisIn => ?_) (fun m5MDisIn => ?_)
              · refine jr_ic rfl ?_
                refine jr_zret rfl rfl rfl (Nat.zero_le _) (Nat.zero_le _) ?_
                refine jr_if_eq rfl (fun _ => ?_) (fun z => absurd (by decide) z)
                refine jr_ic rfl ?_
                refine jr_iret rfl rfl (Nat.zero_le _) (Nat.zero_le _) ?_
                first
                  | exact ⟨rfl, hRel0⟩
                  | (exfalso; omega)
                  | (exfalso; simp (disch := omega) only [Int32.lt_iff_toInt_lt, Int32.le_iff_toInt_le, ← Int32.toInt_inj, Int32.reduceToInt, nI_toInt] at c3 c2LedcanAsk c5LedcanAsk m2MDisIn m5MDisIn; done)
                  | (exfalso; simp (disch := omega) only [Int32.lt_iff_toInt_lt, Int32.le_iff_toInt_le, ← Int32.toInt_inj, Int32.reduceToInt, nI_toInt] at c3 c2LedcanAsk c5LedcanAsk m2MDisIn m5MDisIn; omega)
              · refine jr_ic rfl ?_
                refine jr_goto rfl ?_
                refine jr_zret rfl rfl rfl (Nat.zero_le _) (Nat.zero_le _) ?_
                refine jr_if_eq rfl (fun z => absurd z (by decide)) (fun _ => ?_)
                refine jr_iload rfl rfl ?_
                refine jr_ic rfl ?_
                refine jr_iload rfl rfl ?_
                refine jr_ic rfl ?_
                refine jr_isub rfl ?_
                refine jr_cs3 (mc' := 0) (ms' := 0) rfl jm_MD_isIn_n jm_MD_isIn_f rfl rfl rfl rfl rfl (Nat.zero_le _) (Nat.zero_le _) ?_
                show jx_W (jm_MD_isIn, _, _, _, _, _, _) _ 0 0 0 [some _, some _, some _] [] _
                refine jr_iload rfl rfl ?_
                refine jr_iload rfl rfl ?_
                refine jr_icmp_lt rfl (fun m2MDisIn_2 => ?_) (fun m2MDisIn_2 => ?_)
                · refine jr_ic rfl ?_
                  refine jr_zret rfl rfl rfl (Nat.zero_le _) (Nat.zero_le _) ?_
                  refine jr_if_eq rfl (fun _ => ?_) (fun z => absurd (by decide) z)
                  refine jr_ic rfl ?_
                  refine jr_iret rfl rfl (Nat.zero_le _) (Nat.zero_le _) ?_
                  first
                    | exact ⟨rfl, hRel0⟩
                    | (exfalso; omega)
                    | (exfalso; simp (disch := omega) only [Int32.lt_iff_toInt_lt, Int32.le_iff_toInt_le, ← Int32.toInt_inj, Int32.reduceToInt, nI_toInt] at c3 c2LedcanAsk c5LedcanAsk m2MDisIn m5MDisIn m2MDisIn_2; done)
                    | (exfalso; simp (disch := omega) only [Int32.lt_iff_toInt_lt, Int32.le_iff_toInt_le, ← Int32.toInt_inj, Int32.reduceToInt, nI_toInt] at c3 c2LedcanAsk c5LedcanAsk m2MDisIn m5MDisIn m2MDisIn_2; omega)
                · refine jr_iload rfl rfl ?_
                  refine jr_iload rfl rfl ?_
                  refine jr_icmp_gt rfl (fun m5MDisIn_2 => ?_) (fun m5MDisIn_2 => ?_)
                  · refine jr_ic rfl ?_
                    refine jr_zret rfl rfl rfl (Nat.zero_le _) (Nat.zero_le _) ?_
                    refine jr_if_eq rfl (fun _ => ?_) (fun z => absurd (by decide) z)
                    refine jr_ic rfl ?_
                    refine jr_iret rfl rfl (Nat.zero_le _) (Nat.zero_le _) ?_
                    first
                      | exact ⟨rfl, hRel0⟩
                      | (exfalso; omega)
                      | (exfalso; simp (disch := omega) only [Int32.lt_iff_toInt_lt, Int32.le_iff_toInt_le, ← Int32.toInt_inj, Int32.reduceToInt, nI_toInt] at c3 c2LedcanAsk c5LedcanAsk m2MDisIn m5MDisIn m2MDisIn_2 m5MDisIn_2; done)
                      | (exfalso; simp (disch := omega) only [Int32.lt_iff_toInt_lt, Int32.le_iff_toInt_le, ← Int32.toInt_inj, Int32.reduceToInt, nI_toInt] at c3 c2LedcanAsk c5LedcanAsk m2MDisIn m5MDisIn m2MDisIn_2 m5MDisIn_2; omega)
                  · refine jr_ic rfl ?_
                    refine jr_goto rfl ?_
                    refine jr_zret rfl rfl rfl (Nat.zero_le _) (Nat.zero_le _) ?_
                    refine jr_if_eq rfl (fun z => absurd z (by decide)) (fun _ => ?_)
                    refine jr_aload rfl rfl ?_
                    refine jr_cv0 (mc' := 0) (ms' := 0) rfl jm_MD_hasMonths_n jm_MD_hasMonths_f rfl rfl rfl rfl rfl rfl rfl (Nat.zero_le _) (Nat.zero_le _) ?_
                    show jx_W (jm_MD_hasMonths, _, _, _, _, _, _) _ 0 0 0 [some _] [] _
                    refine jr_aload rfl rfl ?_
                    refine jr_getR rfl rfl rfl rfl (Or.inl rfl) ?_
                    refine jr_aload rfl rfl ?_
                    refine jr_getI rfl rfl ?_
                    refine jr_iald (len := 2) rfl rfl hw.1 (by omega) ?_
                    refine jr_if_le rfl (fun m5MDhasMonths => ?_) (fun m5MDhasMonths => ?_)
                    · refine jr_ic rfl ?_
                      refine jr_zret rfl rfl rfl (Nat.zero_le _) (Nat.zero_le _) ?_
                      refine jr_if_ne rfl (fun z => absurd (by decide) z) (fun _ => ?_)
                      refine jr_ic rfl ?_
                      refine jr_iret rfl rfl (Nat.zero_le _) (Nat.zero_le _) ?_
                      first
                        | exact ⟨rfl, hRel0⟩
                        | (exfalso; omega)
                        | (exfalso; simp (disch := omega) only [Int32.lt_iff_toInt_lt, Int32.le_iff_toInt_le, ← Int32.toInt_inj, Int32.reduceToInt, nI_toInt] at c3 c2LedcanAsk c5LedcanAsk m2MDisIn m5MDisIn m2MDisIn_2 m5MDisIn_2 m5MDhasMonths; done)
                        | (exfalso; simp (disch := omega) only [Int32.lt_iff_toInt_lt, Int32.le_iff_toInt_le, ← Int32.toInt_inj, Int32.reduceToInt, nI_toInt] at c3 c2LedcanAsk c5LedcanAsk m2MDisIn m5MDisIn m2MDisIn_2 m5MDisIn_2 m5MDhasMonths; omega)
                    · refine jr_ic rfl ?_
                      refine jr_goto rfl ?_
                      refine jr_zret rfl rfl rfl (Nat.zero_le _) (Nat.zero_le _) ?_
                      refine jr_if_ne rfl (fun _ => ?_) (fun z => absurd z (by decide))
                      refine jr_aload rfl rfl ?_
                      refine jr_iload rfl rfl ?_
                      refine jr_iload rfl rfl ?_
                      refine jr_cv2 (mc' := 0) (ms' := 0) rfl jm_MD_countRows_n jm_MD_countRows_f rfl rfl rfl rfl rfl rfl rfl (Nat.zero_le _) (Nat.zero_le _) ?_
                      first
                        | (exfalso; omega)
                        | (exfalso; simp (disch := omega) only [Int32.lt_iff_toInt_lt, Int32.le_iff_toInt_le, ← Int32.toInt_inj, Int32.reduceToInt, nI_toInt] at c3 c2LedcanAsk c5LedcanAsk m2MDisIn m5MDisIn m2MDisIn_2 m5MDisIn_2 m5MDhasMonths; done)
                        | (exfalso; simp (disch := omega) only [Int32.lt_iff_toInt_lt, Int32.le_iff_toInt_le, ← Int32.toInt_inj, Int32.reduceToInt, nI_toInt] at c3 c2LedcanAsk c5LedcanAsk m2MDisIn m5MDisIn m2MDisIn_2 m5MDisIn_2 m5MDhasMonths; omega)
          · refine jr_ic rfl ?_
            refine jr_goto rfl ?_
            refine jr_zret rfl rfl rfl (Nat.zero_le _) (Nat.zero_le _) ?_
            refine jr_if_eq rfl (fun z => absurd z (by decide)) (fun _ => ?_)
            refine jr_iload rfl rfl ?_
            refine jr_if_lt rfl (fun c10 => ?_) (fun c10 => ?_)
            · refine jr_ic rfl ?_
              refine jr_iret rfl rfl (Nat.zero_le _) (Nat.zero_le _) ?_
              show jx_W (jm_MD_known, d + 40, 0, 0, false, 1, _) _ 0 0 0 [some _, some _, some _, some _, some _, none] [] _
              refine jr_iload rfl rfl ?_
              refine jr_ic rfl ?_
              refine jr_ic rfl ?_
              refine jr_cs3 (mc' := 0) (ms' := 0) rfl jm_MD_isIn_n jm_MD_isIn_f rfl rfl rfl rfl rfl (Nat.zero_le _) (Nat.zero_le _) ?_
              show jx_W (jm_MD_isIn, _, _, _, _, _, _) _ 0 0 0 [some _, some _, some _] [] _
              refine jr_iload rfl rfl ?_
              refine jr_iload rfl rfl ?_
              refine jr_icmp_lt rfl (fun m2MDisIn => ?_) (fun m2MDisIn => ?_)
              · refine jr_ic rfl ?_
                refine jr_zret rfl rfl rfl (Nat.zero_le _) (Nat.zero_le _) ?_
                refine jr_if_eq rfl (fun _ => ?_) (fun z => absurd (by decide) z)
                refine jr_ic rfl ?_
                refine jr_iret rfl rfl (Nat.zero_le _) (Nat.zero_le _) ?_
                first
                  | exact ⟨rfl, hRel0⟩
                  | (exfalso; omega)
                  | (exfalso; simp (disch := omega) only [Int32.lt_iff_toInt_lt, Int32.le_iff_toInt_le, ← Int32.toInt_inj, Int32.reduceToInt, nI_toInt] at c3 c2LedcanAsk c5LedcanAsk c10 m2MDisIn; done)
                  | (exfalso; simp (disch := omega) only [Int32.lt_iff_toInt_lt, Int32.le_iff_toInt_le, ← Int32.toInt_inj, Int32.reduceToInt, nI_toInt] at c3 c2LedcanAsk c5LedcanAsk c10 m2MDisIn; omega)
              · refine jr_iload rfl rfl ?_
                refine jr_iload rfl rfl ?_
                refine jr_icmp_gt rfl (fun m5MDisIn => ?_) (fun m5MDisIn => ?_)
                · refine jr_ic rfl ?_
                  refine jr_zret rfl rfl rfl (Nat.zero_le _) (Nat.zero_le _) ?_
                  refine jr_if_eq rfl (fun _ => ?_) (fun z => absurd (by decide) z)
                  refine jr_ic rfl ?_
                  refine jr_iret rfl rfl (Nat.zero_le _) (Nat.zero_le _) ?_
                  first
                    | exact ⟨rfl, hRel0⟩
                    | (exfalso; omega)
                    | (exfalso; simp (disch := omega) only [Int32.lt_iff_toInt_lt, Int32.le_iff_toInt_le, ← Int32.toInt_inj, Int32.reduceToInt, nI_toInt] at c3 c2LedcanAsk c5LedcanAsk c10 m2MDisIn m5MDisIn; done)
                    | (exfalso; simp (disch := omega) only [Int32.lt_iff_toInt_lt, Int32.le_iff_toInt_le, ← Int32.toInt_inj, Int32.reduceToInt, nI_toInt] at c3 c2LedcanAsk c5LedcanAsk c10 m2MDisIn m5MDisIn; omega)
                · refine jr_ic rfl ?_
                  refine jr_goto rfl ?_
                  refine jr_zret rfl rfl rfl (Nat.zero_le _) (Nat.zero_le _) ?_
                  refine jr_if_eq rfl (fun z => absurd z (by decide)) (fun _ => ?_)
                  refine jr_iload rfl rfl ?_
                  refine jr_ic rfl ?_
                  refine jr_iload rfl rfl ?_
                  refine jr_ic rfl ?_
                  refine jr_isub rfl ?_
                  refine jr_cs3 (mc' := 0) (ms' := 0) rfl jm_MD_isIn_n jm_MD_isIn_f rfl rfl rfl rfl rfl (Nat.zero_le _) (Nat.zero_le _) ?_
                  show jx_W (jm_MD_isIn, _, _, _, _, _, _) _ 0 0 0 [some _, some _, some _] [] _
                  refine jr_iload rfl rfl ?_
                  refine jr_iload rfl rfl ?_
                  refine jr_icmp_lt rfl (fun m2MDisIn_2 => ?_) (fun m2MDisIn_2 => ?_)
                  · refine jr_ic rfl ?_
                    refine jr_zret rfl rfl rfl (Nat.zero_le _) (Nat.zero_le _) ?_
                    refine jr_if_eq rfl (fun _ => ?_) (fun z => absurd (by decide) z)
                    refine jr_ic rfl ?_
                    refine jr_iret rfl rfl (Nat.zero_le _) (Nat.zero_le _) ?_
                    first
                      | exact ⟨rfl, hRel0⟩
                      | (exfalso; omega)
                      | (exfalso; simp (disch := omega) only [Int32.lt_iff_toInt_lt, Int32.le_iff_toInt_le, ← Int32.toInt_inj, Int32.reduceToInt, nI_toInt] at c3 c2LedcanAsk c5LedcanAsk c10 m2MDisIn m5MDisIn m2MDisIn_2; done)
                      | (exfalso; simp (disch := omega) only [Int32.lt_iff_toInt_lt, Int32.le_iff_toInt_le, ← Int32.toInt_inj, Int32.reduceToInt, nI_toInt] at c3 c2LedcanAsk c5LedcanAsk c10 m2MDisIn m5MDisIn m2MDisIn_2; omega)
                  · refine jr_iload rfl rfl ?_
                    refine jr_iload rfl rfl ?_
                    refine jr_icmp_gt rfl (fun m5MDisIn_2 => ?_) (fun m5MDisIn_2 => ?_)
                    · refine jr_ic rfl ?_
                      refine jr_zret rfl rfl rfl (Nat.zero_le _) (Nat.zero_le _) ?_
                      refine jr_if_eq rfl (fun _ => ?_) (fun z => absurd (by decide) z)
                      refine jr_ic rfl ?_
                      refine jr_iret rfl rfl (Nat.zero_le _) (Nat.zero_le _) ?_
                      first
                        | exact ⟨rfl, hRel0⟩
                        | (exfalso; omega)
                        | (exfalso; simp (disch := omega) only [Int32.lt_iff_toInt_lt, Int32.le_iff_toInt_le, ← Int32.toInt_inj, Int32.reduceToInt, nI_toInt] at c3 c2LedcanAsk c5LedcanAsk c10 m2MDisIn m5MDisIn m2MDisIn_2 m5MDisIn_2; done)
                        | (exfalso; simp (disch := omega) only [Int32.lt_iff_toInt_lt, Int32.le_iff_toInt_le, ← Int32.toInt_inj, Int32.reduceToInt, nI_toInt] at c3 c2LedcanAsk c5LedcanAsk c10 m2MDisIn m5MDisIn m2MDisIn_2 m5MDisIn_2; omega)
                    · refine jr_ic rfl ?_
                      refine jr_goto rfl ?_
                      refine jr_zret rfl rfl rfl (Nat.zero_le _) (Nat.zero_le _) ?_
                      refine jr_if_eq rfl (fun z => absurd z (by decide)) (fun _ => ?_)
                      refine jr_aload rfl rfl ?_
                      refine jr_cv0 (mc' := 0) (ms' := 0) rfl jm_MD_hasMonths_n jm_MD_hasMonths_f rfl rfl rfl rfl rfl rfl rfl (Nat.zero_le _) (Nat.zero_le _) ?_
                      show jx_W (jm_MD_hasMonths, _, _, _, _, _, _) _ 0 0 0 [some _] [] _
                      refine jr_aload rfl rfl ?_
                      refine jr_getR rfl rfl rfl rfl (Or.inl rfl) ?_
                      refine jr_aload rfl rfl ?_
                      refine jr_getI rfl rfl ?_
                      refine jr_iald (len := 2) rfl rfl hw.1 (by omega) ?_
                      refine jr_if_le rfl (fun m5MDhasMonths => ?_) (fun m5MDhasMonths => ?_)
                      · refine jr_ic rfl ?_
                        refine jr_zret rfl rfl rfl (Nat.zero_le _) (Nat.zero_le _) ?_
                        refine jr_if_ne rfl (fun z => absurd (by decide) z) (fun _ => ?_)
                        refine jr_ic rfl ?_
                        refine jr_iret rfl rfl (Nat.zero_le _) (Nat.zero_le _) ?_
                        first
                          | exact ⟨rfl, hRel0⟩
                          | (exfalso; omega)
                          | (exfalso; simp (disch := omega) only [Int32.lt_iff_toInt_lt, Int32.le_iff_toInt_le, ← Int32.toInt_inj, Int32.reduceToInt, nI_toInt] at c3 c2LedcanAsk c5LedcanAsk c10 m2MDisIn m5MDisIn m2MDisIn_2 m5MDisIn_2 m5MDhasMonths; done)
                          | (exfalso; simp (disch := omega) only [Int32.lt_iff_toInt_lt, Int32.le_iff_toInt_le, ← Int32.toInt_inj, Int32.reduceToInt, nI_toInt] at c3 c2LedcanAsk c5LedcanAsk c10 m2MDisIn m5MDisIn m2MDisIn_2 m5MDisIn_2 m5MDhasMonths; omega)
                      · refine jr_ic rfl ?_
                        refine jr_goto rfl ?_
                        refine jr_zret rfl rfl rfl (Nat.zero_le _) (Nat.zero_le _) ?_
                        refine jr_if_ne rfl (fun _ => ?_) (fun z => absurd z (by decide))
                        refine jr_aload rfl rfl ?_
                        refine jr_iload rfl rfl ?_
                        refine jr_iload rfl rfl ?_
                        refine jr_cv2 (mc' := 0) (ms' := 0) rfl jm_MD_countRows_n jm_MD_countRows_f rfl rfl rfl rfl rfl rfl rfl (Nat.zero_le _) (Nat.zero_le _) ?_
                        first
                          | (exfalso; omega)
                          | (exfalso; simp (disch := omega) only [Int32.lt_iff_toInt_lt, Int32.le_iff_toInt_le, ← Int32.toInt_inj, Int32.reduceToInt, nI_toInt] at c3 c2LedcanAsk c5LedcanAsk c10 m2MDisIn m5MDisIn m2MDisIn_2 m5MDisIn_2 m5MDhasMonths; done)
                          | (exfalso; simp (disch := omega) only [Int32.lt_iff_toInt_lt, Int32.le_iff_toInt_le, ← Int32.toInt_inj, Int32.reduceToInt, nI_toInt] at c3 c2LedcanAsk c5LedcanAsk c10 m2MDisIn m5MDisIn m2MDisIn_2 m5MDisIn_2 m5MDhasMonths; omega)
            · refine jr_iload rfl rfl ?_
              refine jr_iload rfl rfl ?_
              refine jr_icmp_lt rfl (fun c13 => ?_) (fun c13 => ?_)
              · refine jr_aload rfl rfl ?_
                refine jr_getR rfl rfl rfl rfl (Or.inl rfl) ?_
                refine jr_aload rfl rfl ?_
                refine jr_getM rfl rfl rfl rfl hto ?_
                refine jr_iload rfl rfl ?_
                refine jr_iload rfl rfl ?_
                refine jr_cv3 (mc' := 0) (ms' := 0) rfl jm_Led_rows_n jm_Led_rows_f rfl rfl rfl rfl rfl rfl rfl (Nat.zero_le _) (Nat.zero_le _) ?_
                first
                  | (exfalso; omega)
                  | (exfalso; simp (disch := omega) only [Int32.lt_iff_toInt_lt, Int32.le_iff_toInt_le, ← Int32.toInt_inj, Int32.reduceToInt, nI_toInt] at c3 c2LedcanAsk c5LedcanAsk c10 c13; done)
                  | (exfalso; simp (disch := omega) only [Int32.lt_iff_toInt_lt, Int32.le_iff_toInt_le, ← Int32.toInt_inj, Int32.reduceToInt, nI_toInt] at c3 c2LedcanAsk c5LedcanAsk c10 c13; omega)
              · refine jr_ic rfl ?_
                refine jr_iret rfl rfl (Nat.zero_le _) (Nat.zero_le _) ?_
                show jx_W (jm_MD_known, d + 40, 0, 0, false, 1, _) _ 0 0 0 [some _, some _, some _, some _, some _, none] [] _
                refine jr_iload rfl rfl ?_
                refine jr_ic rfl ?_
                refine jr_ic rfl ?_
                refine jr_cs3 (mc' := 0) (ms' := 0) rfl jm_MD_isIn_n jm_MD_isIn_f rfl rfl rfl rfl rfl (Nat.zero_le _) (Nat.zero_le _) ?_
                show jx_W (jm_MD_isIn, _, _, _, _, _, _) _ 0 0 0 [some _, some _, some _] [] _
                refine jr_iload rfl rfl ?_
                refine jr_iload rfl rfl ?_
                refine jr_icmp_lt rfl (fun m2MDisIn => ?_) (fun m2MDisIn => ?_)
                · refine jr_ic rfl ?_
                  refine jr_zret rfl rfl rfl (Nat.zero_le _) (Nat.zero_le _) ?_
                  refine jr_if_eq rfl (fun _ => ?_) (fun z => absurd (by decide) z)
                  refine jr_ic rfl ?_
                  refine jr_iret rfl rfl (Nat.zero_le _) (Nat.zero_le _) ?_
                  first
                    | exact ⟨rfl, hRel0⟩
                    | (exfalso; omega)
                    | (exfalso; simp (disch := omega) only [Int32.lt_iff_toInt_lt, Int32.le_iff_toInt_le, ← Int32.toInt_inj, Int32.reduceToInt, nI_toInt] at c3 c2LedcanAsk c5LedcanAsk c10 c13 m2MDisIn; done)
                    | (exfalso; simp (disch := omega) only [Int32.lt_iff_toInt_lt, Int32.le_iff_toInt_le, ← Int32.toInt_inj, Int32.reduceToInt, nI_toInt] at c3 c2LedcanAsk c5LedcanAsk c10 c13 m2MDisIn; omega)
                · refine jr_iload rfl rfl ?_
                  refine jr_iload rfl rfl ?_
                  refine jr_icmp_gt rfl (fun m5MDisIn => ?_) (fun m5MDisIn => ?_)
                  · refine jr_ic rfl ?_
                    refine jr_zret rfl rfl rfl (Nat.zero_le _) (Nat.zero_le _) ?_
                    refine jr_if_eq rfl (fun _ => ?_) (fun z => absurd (by decide) z)
                    refine jr_ic rfl ?_
                    refine jr_iret rfl rfl (Nat.zero_le _) (Nat.zero_le _) ?_
                    first
                      | exact ⟨rfl, hRel0⟩
                      | (exfalso; omega)
                      | (exfalso; simp (disch := omega) only [Int32.lt_iff_toInt_lt, Int32.le_iff_toInt_le, ← Int32.toInt_inj, Int32.reduceToInt, nI_toInt] at c3 c2LedcanAsk c5LedcanAsk c10 c13 m2MDisIn m5MDisIn; done)
                      | (exfalso; simp (disch := omega) only [Int32.lt_iff_toInt_lt, Int32.le_iff_toInt_le, ← Int32.toInt_inj, Int32.reduceToInt, nI_toInt] at c3 c2LedcanAsk c5LedcanAsk c10 c13 m2MDisIn m5MDisIn; omega)
                  · refine jr_ic rfl ?_
                    refine jr_goto rfl ?_
                    refine jr_zret rfl rfl rfl (Nat.zero_le _) (Nat.zero_le _) ?_
                    refine jr_if_eq rfl (fun z => absurd z (by decide)) (fun _ => ?_)
                    refine jr_iload rfl rfl ?_
                    refine jr_ic rfl ?_
                    refine jr_iload rfl rfl ?_
                    refine jr_ic rfl ?_
                    refine jr_isub rfl ?_
                    refine jr_cs3 (mc' := 0) (ms' := 0) rfl jm_MD_isIn_n jm_MD_isIn_f rfl rfl rfl rfl rfl (Nat.zero_le _) (Nat.zero_le _) ?_
                    show jx_W (jm_MD_isIn, _, _, _, _, _, _) _ 0 0 0 [some _, some _, some _] [] _
                    refine jr_iload rfl rfl ?_
                    refine jr_iload rfl rfl ?_
                    refine jr_icmp_lt rfl (fun m2MDisIn_2 => ?_) (fun m2MDisIn_2 => ?_)
                    · refine jr_ic rfl ?_
                      refine jr_zret rfl rfl rfl (Nat.zero_le _) (Nat.zero_le _) ?_
                      refine jr_if_eq rfl (fun _ => ?_) (fun z => absurd (by decide) z)
                      refine jr_ic rfl ?_
                      refine jr_iret rfl rfl (Nat.zero_le _) (Nat.zero_le _) ?_
                      first
                        | exact ⟨rfl, hRel0⟩
                        | (exfalso; omega)
                        | (exfalso; simp (disch := omega) only [Int32.lt_iff_toInt_lt, Int32.le_iff_toInt_le, ← Int32.toInt_inj, Int32.reduceToInt, nI_toInt] at c3 c2LedcanAsk c5LedcanAsk c10 c13 m2MDisIn m5MDisIn m2MDisIn_2; done)
                        | (exfalso; simp (disch := omega) only [Int32.lt_iff_toInt_lt, Int32.le_iff_toInt_le, ← Int32.toInt_inj, Int32.reduceToInt, nI_toInt] at c3 c2LedcanAsk c5LedcanAsk c10 c13 m2MDisIn m5MDisIn m2MDisIn_2; omega)
                    · refine jr_iload rfl rfl ?_
                      refine jr_iload rfl rfl ?_
                      refine jr_icmp_gt rfl (fun m5MDisIn_2 => ?_) (fun m5MDisIn_2 => ?_)
                      · refine jr_ic rfl ?_
                        refine jr_zret rfl rfl rfl (Nat.zero_le _) (Nat.zero_le _) ?_
                        refine jr_if_eq rfl (fun _ => ?_) (fun z => absurd (by decide) z)
                        refine jr_ic rfl ?_
                        refine jr_iret rfl rfl (Nat.zero_le _) (Nat.zero_le _) ?_
                        first
                          | exact ⟨rfl, hRel0⟩
                          | (exfalso; omega)
                          | (exfalso; simp (disch := omega) only [Int32.lt_iff_toInt_lt, Int32.le_iff_toInt_le, ← Int32.toInt_inj, Int32.reduceToInt, nI_toInt] at c3 c2LedcanAsk c5LedcanAsk c10 c13 m2MDisIn m5MDisIn m2MDisIn_2 m5MDisIn_2; done)
                          | (exfalso; simp (disch := omega) only [Int32.lt_iff_toInt_lt, Int32.le_iff_toInt_le, ← Int32.toInt_inj, Int32.reduceToInt, nI_toInt] at c3 c2LedcanAsk c5LedcanAsk c10 c13 m2MDisIn m5MDisIn m2MDisIn_2 m5MDisIn_2; omega)
                      · refine jr_ic rfl ?_
                        refine jr_goto rfl ?_
                        refine jr_zret rfl rfl rfl (Nat.zero_le _) (Nat.zero_le _) ?_
                        refine jr_if_eq rfl (fun z => absurd z (by decide)) (fun _ => ?_)
                        refine jr_aload rfl rfl ?_
                        refine jr_cv0 (mc' := 0) (ms' := 0) rfl jm_MD_hasMonths_n jm_MD_hasMonths_f rfl rfl rfl rfl rfl rfl rfl (Nat.zero_le _) (Nat.zero_le _) ?_
                        show jx_W (jm_MD_hasMonths, _, _, _, _, _, _) _ 0 0 0 [some _] [] _
                        refine jr_aload rfl rfl ?_
                        refine jr_getR rfl rfl rfl rfl (Or.inl rfl) ?_
                        refine jr_aload rfl rfl ?_
                        refine jr_getI rfl rfl ?_
                        refine jr_iald (len := 2) rfl rfl hw.1 (by omega) ?_
                        refine jr_if_le rfl (fun m5MDhasMonths => ?_) (fun m5MDhasMonths => ?_)
                        · refine jr_ic rfl ?_
                          refine jr_zret rfl rfl rfl (Nat.zero_le _) (Nat.zero_le _) ?_
                          refine jr_if_ne rfl (fun z => absurd (by decide) z) (fun _ => ?_)
                          refine jr_ic rfl ?_
                          refine jr_iret rfl rfl (Nat.zero_le _) (Nat.zero_le _) ?_
                          first
                            | exact ⟨rfl, hRel0⟩
                            | (exfalso; omega)
                            | (exfalso; simp (disch := omega) only [Int32.lt_iff_toInt_lt, Int32.le_iff_toInt_le, ← Int32.toInt_inj, Int32.reduceToInt, nI_toInt] at c3 c2LedcanAsk c5LedcanAsk c10 c13 m2MDisIn m5MDisIn m2MDisIn_2 m5MDisIn_2 m5MDhasMonths; done)
                            | (exfalso; simp (disch := omega) only [Int32.lt_iff_toInt_lt, Int32.le_iff_toInt_le, ← Int32.toInt_inj, Int32.reduceToInt, nI_toInt] at c3 c2LedcanAsk c5LedcanAsk c10 c13 m2MDisIn m5MDisIn m2MDisIn_2 m5MDisIn_2 m5MDhasMonths; omega)
                        · refine jr_ic rfl ?_
                          refine jr_goto rfl ?_
                          refine jr_zret rfl rfl rfl (Nat.zero_le _) (Nat.zero_le _) ?_
                          refine jr_if_ne rfl (fun _ => ?_) (fun z => absurd z (by decide))
                          refine jr_aload rfl rfl ?_
                          refine jr_iload rfl rfl ?_
                          refine jr_iload rfl rfl ?_
                          refine jr_cv2 (mc' := 0) (ms' := 0) rfl jm_MD_countRows_n jm_MD_countRows_f rfl rfl rfl rfl rfl rfl rfl (Nat.zero_le _) (Nat.zero_le _) ?_
                          first
                            | (exfalso; omega)
                            | (exfalso; simp (disch := omega) only [Int32.lt_iff_toInt_lt, Int32.le_iff_toInt_le, ← Int32.toInt_inj, Int32.reduceToInt, nI_toInt] at c3 c2LedcanAsk c5LedcanAsk c10 c13 m2MDisIn m5MDisIn m2MDisIn_2 m5MDisIn_2 m5MDhasMonths; done)
                            | (exfalso; simp (disch := omega) only [Int32.lt_iff_toInt_lt, Int32.le_iff_toInt_le, ← Int32.toInt_inj, Int32.reduceToInt, nI_toInt] at c3 c2LedcanAsk c5LedcanAsk c10 c13 m2MDisIn m5MDisIn m2MDisIn_2 m5MDisIn_2 m5MDhasMonths; omega)
  · have hn1 : 0 < jz_nm hm b := by
      rcases Nat.eq_zero_or_pos (jz_nm hm b) with e | e
      · rw [e] at hnm; exact absurd hnm.1 hmo
      · exact e
    show jx_W (jm_JV_known, d + 40, 0, 0, false, 0, _) _ 0 0 0 [some (jv_r 10 0), some (jv_i x), some (jv_i y), some (jv_i z), some (jv_i w), none] [] _
    refine jr_aload rfl rfl ?_
    refine jr_getM rfl rfl rfl rfl hto ?_
    refine jr_getI rfl rfl ?_
    refine jr_if_eq rfl (fun c3 => ?_) (fun c3 => ?_)
    · refine jr_ic rfl ?_
      refine jr_iret rfl rfl (Nat.zero_le _) (Nat.zero_le _) ?_
      show jx_W (jm_MD_known, d + 40, 0, 0, false, 1, _) _ 0 0 0 [some _, some _, some _, some _, some _, none] [] _
      refine jr_iload rfl rfl ?_
      refine jr_ic rfl ?_
      refine jr_ic rfl ?_
      refine jr_cs3 (mc' := 0) (ms' := 0) rfl jm_MD_isIn_n jm_MD_isIn_f rfl rfl rfl rfl rfl (Nat.zero_le _) (Nat.zero_le _) ?_
      show jx_W (jm_MD_isIn, _, _, _, _, _, _) _ 0 0 0 [some _, some _, some _] [] _
      refine jr_iload rfl rfl ?_
      refine jr_iload rfl rfl ?_
      refine jr_icmp_lt rfl (fun m2MDisIn => ?_) (fun m2MDisIn => ?_)
      · refine jr_ic rfl ?_
        refine jr_zret rfl rfl rfl (Nat.zero_le _) (Nat.zero_le _) ?_
        refine jr_if_eq rfl (fun _ => ?_) (fun z => absurd (by decide) z)
        refine jr_ic rfl ?_
        refine jr_iret rfl rfl (Nat.zero_le _) (Nat.zero_le _) ?_
        first
          | exact ⟨rfl, hRel0⟩
          | (exfalso; omega)
          | (exfalso; simp (disch := omega) only [Int32.lt_iff_toInt_lt, Int32.le_iff_toInt_le, ← Int32.toInt_inj, Int32.reduceToInt, nI_toInt] at c3 m2MDisIn; done)
          | (exfalso; simp (disch := omega) only [Int32.lt_iff_toInt_lt, Int32.le_iff_toInt_le, ← Int32.toInt_inj, Int32.reduceToInt, nI_toInt] at c3 m2MDisIn; omega)
      · refine jr_iload rfl rfl ?_
        refine jr_iload rfl rfl ?_
        refine jr_icmp_gt rfl (fun m5MDisIn => ?_) (fun m5MDisIn => ?_)
        · refine jr_ic rfl ?_
          refine jr_zret rfl rfl rfl (Nat.zero_le _) (Nat.zero_le _) ?_
          refine jr_if_eq rfl (fun _ => ?_) (fun z => absurd (by decide) z)
          refine jr_ic rfl ?_
          refine jr_iret rfl rfl (Nat.zero_le _) (Nat.zero_le _) ?_
          first
            | exact ⟨rfl, hRel0⟩
            | (exfalso; omega)
            | (exfalso; simp (disch := omega) only [Int32.lt_iff_toInt_lt, Int32.le_iff_toInt_le, ← Int32.toInt_inj, Int32.reduceToInt, nI_toInt] at c3 m2MDisIn m5MDisIn; done)
            | (exfalso; simp (disch := omega) only [Int32.lt_iff_toInt_lt, Int32.le_iff_toInt_le, ← Int32.toInt_inj, Int32.reduceToInt, nI_toInt] at c3 m2MDisIn m5MDisIn; omega)
        · refine jr_ic rfl ?_
          refine jr_goto rfl ?_
          refine jr_zret rfl rfl rfl (Nat.zero_le _) (Nat.zero_le _) ?_
          refine jr_if_eq rfl (fun z => absurd z (by decide)) (fun _ => ?_)
          refine jr_iload rfl rfl ?_
          refine jr_ic rfl ?_
          refine jr_iload rfl rfl ?_
          refine jr_ic rfl ?_
          refine jr_isub rfl ?_
          refine jr_cs3 (mc' := 0) (ms' := 0) rfl jm_MD_isIn_n jm_MD_isIn_f rfl rfl rfl rfl rfl (Nat.zero_le _) (Nat.zero_le _) ?_
          show jx_W (jm_MD_isIn, _, _, _, _, _, _) _ 0 0 0 [some _, some _, some _] [] _
          refine jr_iload rfl rfl ?_
          refine jr_iload rfl rfl ?_
          refine jr_icmp_lt rfl (fun m2MDisIn_2 => ?_) (fun m2MDisIn_2 => ?_)
          · refine jr_ic rfl ?_
            refine jr_zret rfl rfl rfl (Nat.zero_le _) (Nat.zero_le _) ?_
            refine jr_if_eq rfl (fun _ => ?_) (fun z => absurd (by decide) z)
            refine jr_ic rfl ?_
            refine jr_iret rfl rfl (Nat.zero_le _) (Nat.zero_le _) ?_
            first
              | exact ⟨rfl, hRel0⟩
              | (exfalso; omega)
              | (exfalso; simp (disch := omega) only [Int32.lt_iff_toInt_lt, Int32.le_iff_toInt_le, ← Int32.toInt_inj, Int32.reduceToInt, nI_toInt] at c3 m2MDisIn m5MDisIn m2MDisIn_2; done)
              | (exfalso; simp (disch := omega) only [Int32.lt_iff_toInt_lt, Int32.le_iff_toInt_le, ← Int32.toInt_inj, Int32.reduceToInt, nI_toInt] at c3 m2MDisIn m5MDisIn m2MDisIn_2; omega)
          · refine jr_iload rfl rfl ?_
            refine jr_iload rfl rfl ?_
            refine jr_icmp_gt rfl (fun m5MDisIn_2 => ?_) (fun m5MDisIn_2 => ?_)
            · refine jr_ic rfl ?_
              refine jr_zret rfl rfl rfl (Nat.zero_le _) (Nat.zero_le _) ?_
              refine jr_if_eq rfl (fun _ => ?_) (fun z => absurd (by decide) z)
              refine jr_ic rfl ?_
              refine jr_iret rfl rfl (Nat.zero_le _) (Nat.zero_le _) ?_
              first
                | exact ⟨rfl, hRel0⟩
                | (exfalso; omega)
                | (exfalso; simp (disch := omega) only [Int32.lt_iff_toInt_lt, Int32.le_iff_toInt_le, ← Int32.toInt_inj, Int32.reduceToInt, nI_toInt] at c3 m2MDisIn m5MDisIn m2MDisIn_2 m5MDisIn_2; done)
                | (exfalso; simp (disch := omega) only [Int32.lt_iff_toInt_lt, Int32.le_iff_toInt_le, ← Int32.toInt_inj, Int32.reduceToInt, nI_toInt] at c3 m2MDisIn m5MDisIn m2MDisIn_2 m5MDisIn_2; omega)
            · refine jr_ic rfl ?_
              refine jr_goto rfl ?_
              refine jr_zret rfl rfl rfl (Nat.zero_le _) (Nat.zero_le _) ?_
              refine jr_if_eq rfl (fun z => absurd z (by decide)) (fun _ => ?_)
              refine jr_aload rfl rfl ?_
              refine jr_cv0 (mc' := 0) (ms' := 0) rfl jm_MD_hasMonths_n jm_MD_hasMonths_f rfl rfl rfl rfl rfl rfl rfl (Nat.zero_le _) (Nat.zero_le _) ?_
              show jx_W (jm_MD_hasMonths, _, _, _, _, _, _) _ 0 0 0 [some _] [] _
              refine jr_aload rfl rfl ?_
              refine jr_getR rfl rfl rfl rfl (Or.inl rfl) ?_
              refine jr_aload rfl rfl ?_
              refine jr_getI rfl rfl ?_
              refine jr_iald (len := 2) rfl rfl hw.1 (by omega) ?_
              refine jr_if_le rfl (fun m5MDhasMonths => ?_) (fun m5MDhasMonths => ?_)
              · refine jr_ic rfl ?_
                refine jr_zret rfl rfl rfl (Nat.zero_le _) (Nat.zero_le _) ?_
                refine jr_if_ne rfl (fun z => absurd (by decide) z) (fun _ => ?_)
                refine jr_ic rfl ?_
                refine jr_iret rfl rfl (Nat.zero_le _) (Nat.zero_le _) ?_
                first
                  | exact ⟨rfl, hRel0⟩
                  | (exfalso; omega)
                  | (exfalso; simp (disch := omega) only [Int32.lt_iff_toInt_lt, Int32.le_iff_toInt_le, ← Int32.toInt_inj, Int32.reduceToInt, nI_toInt] at c3 m2MDisIn m5MDisIn m2MDisIn_2 m5MDisIn_2 m5MDhasMonths; done)
                  | (exfalso; simp (disch := omega) only [Int32.lt_iff_toInt_lt, Int32.le_iff_toInt_le, ← Int32.toInt_inj, Int32.reduceToInt, nI_toInt] at c3 m2MDisIn m5MDisIn m2MDisIn_2 m5MDisIn_2 m5MDhasMonths; omega)
              · refine jr_ic rfl ?_
                refine jr_goto rfl ?_
                refine jr_zret rfl rfl rfl (Nat.zero_le _) (Nat.zero_le _) ?_
                refine jr_if_ne rfl (fun _ => ?_) (fun z => absurd z (by decide))
                refine jr_aload rfl rfl ?_
                refine jr_iload rfl rfl ?_
                refine jr_iload rfl rfl ?_
                refine jr_cv2 (mc' := 0) (ms' := 0) rfl jm_MD_countRows_n jm_MD_countRows_f rfl rfl rfl rfl rfl rfl rfl (Nat.zero_le _) (Nat.zero_le _) ?_
                first
                  | (exfalso; omega)
                  | (exfalso; simp (disch := omega) only [Int32.lt_iff_toInt_lt, Int32.le_iff_toInt_le, ← Int32.toInt_inj, Int32.reduceToInt, nI_toInt] at c3 m2MDisIn m5MDisIn m2MDisIn_2 m5MDisIn_2 m5MDhasMonths; done)
                  | (exfalso; simp (disch := omega) only [Int32.lt_iff_toInt_lt, Int32.le_iff_toInt_le, ← Int32.toInt_inj, Int32.reduceToInt, nI_toInt] at c3 m2MDisIn m5MDisIn m2MDisIn_2 m5MDisIn_2 m5MDhasMonths; omega)
    · refine jr_aload rfl rfl ?_
      refine jr_getR rfl rfl rfl rfl (Or.inl rfl) ?_
      refine jr_iload rfl rfl ?_
      refine jr_cv1 (mc' := 0) (ms' := 0) rfl jm_Led_canAsk_n jm_Led_canAsk_f rfl rfl rfl rfl rfl rfl rfl (Nat.zero_le _) (Nat.zero_le _) ?_
      show jx_W (jm_Led_canAsk, _, _, _, _, _, _) _ 0 0 0 [some _, some _] [] _
      refine jr_iload rfl rfl ?_
      refine jr_ic rfl ?_
      refine jr_icmp_lt rfl (fun c2LedcanAsk => ?_) (fun c2LedcanAsk => ?_)
      · refine jr_ic rfl ?_
        refine jr_zret rfl rfl rfl (Nat.zero_le _) (Nat.zero_le _) ?_
        refine jr_if_eq rfl (fun _ => ?_) (fun z => absurd (by decide) z)
        refine jr_ic rfl ?_
        refine jr_iret rfl rfl (Nat.zero_le _) (Nat.zero_le _) ?_
        show jx_W (jm_MD_known, d + 40, 0, 0, false, 1, _) _ 0 0 0 [some _, some _, some _, some _, some _, none] [] _
        refine jr_iload rfl rfl ?_
        refine jr_ic rfl ?_
        refine jr_ic rfl ?_
        refine jr_cs3 (mc' := 0) (ms' := 0) rfl jm_MD_isIn_n jm_MD_isIn_f rfl rfl rfl rfl rfl (Nat.zero_le _) (Nat.zero_le _) ?_
        show jx_W (jm_MD_isIn, _, _, _, _, _, _) _ 0 0 0 [some _, some _, some _] [] _
        refine jr_iload rfl rfl ?_
        refine jr_iload rfl rfl ?_
        refine jr_icmp_lt rfl (fun m2MDisIn => ?_) (fun m2MDisIn => ?_)
        · refine jr_ic rfl ?_
          refine jr_zret rfl rfl rfl (Nat.zero_le _) (Nat.zero_le _) ?_
          refine jr_if_eq rfl (fun _ => ?_) (fun z => absurd (by decide) z)
          refine jr_ic rfl ?_
          refine jr_iret rfl rfl (Nat.zero_le _) (Nat.zero_le _) ?_
          first
            | exact ⟨rfl, hRel0⟩
            | (exfalso; omega)
            | (exfalso; simp (disch := omega) only [Int32.lt_iff_toInt_lt, Int32.le_iff_toInt_le, ← Int32.toInt_inj, Int32.reduceToInt, nI_toInt] at c3 c2LedcanAsk m2MDisIn; done)
            | (exfalso; simp (disch := omega) only [Int32.lt_iff_toInt_lt, Int32.le_iff_toInt_le, ← Int32.toInt_inj, Int32.reduceToInt, nI_toInt] at c3 c2LedcanAsk m2MDisIn; omega)
        · refine jr_iload rfl rfl ?_
          refine jr_iload rfl rfl ?_
          refine jr_icmp_gt rfl (fun m5MDisIn => ?_) (fun m5MDisIn => ?_)
          · refine jr_ic rfl ?_
            refine jr_zret rfl rfl rfl (Nat.zero_le _) (Nat.zero_le _) ?_
            refine jr_if_eq rfl (fun _ => ?_) (fun z => absurd (by decide) z)
            refine jr_ic rfl ?_
            refine jr_iret rfl rfl (Nat.zero_le _) (Nat.zero_le _) ?_
            first
              | exact ⟨rfl, hRel0⟩
              | (exfalso; omega)
              | (exfalso; simp (disch := omega) only [Int32.lt_iff_toInt_lt, Int32.le_iff_toInt_le, ← Int32.toInt_inj, Int32.reduceToInt, nI_toInt] at c3 c2LedcanAsk m2MDisIn m5MDisIn; done)
              | (exfalso; simp (disch := omega) only [Int32.lt_iff_toInt_lt, Int32.le_iff_toInt_le, ← Int32.toInt_inj, Int32.reduceToInt, nI_toInt] at c3 c2LedcanAsk m2MDisIn m5MDisIn; omega)
          · refine jr_ic rfl ?_
            refine jr_goto rfl ?_
            refine jr_zret rfl rfl rfl (Nat.zero_le _) (Nat.zero_le _) ?_
            refine jr_if_eq rfl (fun z => absurd z (by decide)) (fun _ => ?_)
            refine jr_iload rfl rfl ?_
            refine jr_ic rfl ?_
            refine jr_iload rfl rfl ?_
            refine jr_ic rfl ?_
            refine jr_isub rfl ?_
            refine jr_cs3 (mc' := 0) (ms' := 0) rfl jm_MD_isIn_n jm_MD_isIn_f rfl rfl rfl rfl rfl (Nat.zero_le _) (Nat.zero_le _) ?_
            show jx_W (jm_MD_isIn, _, _, _, _, _, _) _ 0 0 0 [some _, some _, some _] [] _
            refine jr_iload rfl rfl ?_
            refine jr_iload rfl rfl ?_
            refine jr_icmp_lt rfl (fun m2MDisIn_2 => ?_) (fun m2MDisIn_2 => ?_)
            · refine jr_ic rfl ?_
              refine jr_zret rfl rfl rfl (Nat.zero_le _) (Nat.zero_le _) ?_
              refine jr_if_eq rfl (fun _ => ?_) (fun z => absurd (by decide) z)
              refine jr_ic rfl ?_
              refine jr_iret rfl rfl (Nat.zero_le _) (Nat.zero_le _) ?_
              first
                | exact ⟨rfl, hRel0⟩
                | (exfalso; omega)
                | (exfalso; simp (disch := omega) only [Int32.lt_iff_toInt_lt, Int32.le_iff_toInt_le, ← Int32.toInt_inj, Int32.reduceToInt, nI_toInt] at c3 c2LedcanAsk m2MDisIn m5MDisIn m2MDisIn_2; done)
                | (exfalso; simp (disch := omega) only [Int32.lt_iff_toInt_lt, Int32.le_iff_toInt_le, ← Int32.toInt_inj, Int32.reduceToInt, nI_toInt] at c3 c2LedcanAsk m2MDisIn m5MDisIn m2MDisIn_2; omega)
            · refine jr_iload rfl rfl ?_
              refine jr_iload rfl rfl ?_
              refine jr_icmp_gt rfl (fun m5MDisIn_2 => ?_) (fun m5MDisIn_2 => ?_)
              · refine jr_ic rfl ?_
                refine jr_zret rfl rfl rfl (Nat.zero_le _) (Nat.zero_le _) ?_
                refine jr_if_eq rfl (fun _ => ?_) (fun z => absurd (by decide) z)
                refine jr_ic rfl ?_
                refine jr_iret rfl rfl (Nat.zero_le _) (Nat.zero_le _) ?_
                first
                  | exact ⟨rfl, hRel0⟩
                  | (exfalso; omega)
                  | (exfalso; simp (disch := omega) only [Int32.lt_iff_toInt_lt, Int32.le_iff_toInt_le, ← Int32.toInt_inj, Int32.reduceToInt, nI_toInt] at c3 c2LedcanAsk m2MDisIn m5MDisIn m2MDisIn_2 m5MDisIn_2; done)
                  | (exfalso; simp (disch := omega) only [Int32.lt_iff_toInt_lt, Int32.le_iff_toInt_le, ← Int32.toInt_inj, Int32.reduceToInt, nI_toInt] at c3 c2LedcanAsk m2MDisIn m5MDisIn m2MDisIn_2 m5MDisIn_2; omega)
              · refine jr_ic rfl ?_
                refine jr_goto rfl ?_
                refine jr_zret rfl rfl rfl (Nat.zero_le _) (Nat.zero_le _) ?_
                refine jr_if_eq rfl (fun z => absurd z (by decide)) (fun _ => ?_)
                refine jr_aload rfl rfl ?_
                refine jr_cv0 (mc' := 0) (ms' := 0) rfl jm_MD_hasMonths_n jm_MD_hasMonths_f rfl rfl rfl rfl rfl rfl rfl (Nat.zero_le _) (Nat.zero_le _) ?_
                show jx_W (jm_MD_hasMonths, _, _, _, _, _, _) _ 0 0 0 [some _] [] _
                refine jr_aload rfl rfl ?_
                refine jr_getR rfl rfl rfl rfl (Or.inl rfl) ?_
                refine jr_aload rfl rfl ?_
                refine jr_getI rfl rfl ?_
                refine jr_iald (len := 2) rfl rfl hw.1 (by omega) ?_
                refine jr_if_le rfl (fun m5MDhasMonths => ?_) (fun m5MDhasMonths => ?_)
                · refine jr_ic rfl ?_
                  refine jr_zret rfl rfl rfl (Nat.zero_le _) (Nat.zero_le _) ?_
                  refine jr_if_ne rfl (fun z => absurd (by decide) z) (fun _ => ?_)
                  refine jr_ic rfl ?_
                  refine jr_iret rfl rfl (Nat.zero_le _) (Nat.zero_le _) ?_
                  first
                    | exact ⟨rfl, hRel0⟩
                    | (exfalso; omega)
                    | (exfalso; simp (disch := omega) only [Int32.lt_iff_toInt_lt, Int32.le_iff_toInt_le, ← Int32.toInt_inj, Int32.reduceToInt, nI_toInt] at c3 c2LedcanAsk m2MDisIn m5MDisIn m2MDisIn_2 m5MDisIn_2 m5MDhasMonths; done)
                    | (exfalso; simp (disch := omega) only [Int32.lt_iff_toInt_lt, Int32.le_iff_toInt_le, ← Int32.toInt_inj, Int32.reduceToInt, nI_toInt] at c3 c2LedcanAsk m2MDisIn m5MDisIn m2MDisIn_2 m5MDisIn_2 m5MDhasMonths; omega)
                · refine jr_ic rfl ?_
                  refine jr_goto rfl ?_
                  refine jr_zret rfl rfl rfl (Nat.zero_le _) (Nat.zero_le _) ?_
                  refine jr_if_ne rfl (fun _ => ?_) (fun z => absurd z (by decide))
                  refine jr_aload rfl rfl ?_
                  refine jr_iload rfl rfl ?_
                  refine jr_iload rfl rfl ?_
                  refine jr_cv2 (mc' := 0) (ms' := 0) rfl jm_MD_countRows_n jm_MD_countRows_f rfl rfl rfl rfl rfl rfl rfl (Nat.zero_le _) (Nat.zero_le _) ?_
                  first
                    | (exfalso; omega)
                    | (exfalso; simp (disch := omega) only [Int32.lt_iff_toInt_lt, Int32.le_iff_toInt_le, ← Int32.toInt_inj, Int32.reduceToInt, nI_toInt] at c3 c2LedcanAsk m2MDisIn m5MDisIn m2MDisIn_2 m5MDisIn_2 m5MDhasMonths; done)
                    | (exfalso; simp (disch := omega) only [Int32.lt_iff_toInt_lt, Int32.le_iff_toInt_le, ← Int32.toInt_inj, Int32.reduceToInt, nI_toInt] at c3 c2LedcanAsk m2MDisIn m5MDisIn m2MDisIn_2 m5MDisIn_2 m5MDhasMonths; omega)
      · refine jr_iload rfl rfl ?_
        refine jr_ic rfl ?_
        refine jr_icmp_gt rfl (fun c5LedcanAsk => ?_) (fun c5LedcanAsk => ?_)
        · refine jr_ic rfl ?_
          refine jr_zret rfl rfl rfl (Nat.zero_le _) (Nat.zero_le _) ?_
          refine jr_if_eq rfl (fun _ => ?_) (fun z => absurd (by decide) z)
          refine jr_ic rfl ?_
          refine jr_iret rfl rfl (Nat.zero_le _) (Nat.zero_le _) ?_
          show jx_W (jm_MD_known, d + 40, 0, 0, false, 1, _) _ 0 0 0 [some _, some _, some _, some _, some _, none] [] _
          refine jr_iload rfl rfl ?_
          refine jr_ic rfl ?_
          refine jr_ic rfl ?_
          refine jr_cs3 (mc' := 0) (ms' := 0) rfl jm_MD_isIn_n jm_MD_isIn_f rfl rfl rfl rfl rfl (Nat.zero_le _) (Nat.zero_le _) ?_
          show jx_W (jm_MD_isIn, _, _, _, _, _, _) _ 0 0 0 [some _, some _, some _] [] _
          refine jr_iload rfl rfl ?_
          refine jr_iload rfl rfl ?_
          refine jr_icmp_lt rfl (fun m2MDisIn => ?_) (fun m2MDisIn => ?_)
          · refine jr_ic rfl ?_
            refine jr_zret rfl rfl rfl (Nat.zero_le _) (Nat.zero_le _) ?_
            refine jr_if_eq rfl (fun _ => ?_) (fun z => absurd (by decide) z)
            refine jr_ic rfl ?_
            refine jr_iret rfl rfl (Nat.zero_le _) (Nat.zero_le _) ?_
            first
              | exact ⟨rfl, hRel0⟩
              | (exfalso; omega)
              | (exfalso; simp (disch := omega) only [Int32.lt_iff_toInt_lt, Int32.le_iff_toInt_le, ← Int32.toInt_inj, Int32.reduceToInt, nI_toInt] at c3 c2LedcanAsk c5LedcanAsk m2MDisIn; done)
              | (exfalso; simp (disch := omega) only [Int32.lt_iff_toInt_lt, Int32.le_iff_toInt_le, ← Int32.toInt_inj, Int32.reduceToInt, nI_toInt] at c3 c2LedcanAsk c5LedcanAsk m2MDisIn; omega)
          · refine jr_iload rfl rfl ?_
            refine jr_iload rfl rfl ?_
            refine jr_icmp_gt rfl (fun m5MDisIn => ?_) (fun m5MDisIn => ?_)
            · refine jr_ic rfl ?_
              refine jr_zret rfl rfl rfl (Nat.zero_le _) (Nat.zero_le _) ?_
              refine jr_if_eq rfl (fun _ => ?_) (fun z => absurd (by decide) z)
              refine jr_ic rfl ?_
              refine jr_iret rfl rfl (Nat.zero_le _) (Nat.zero_le _) ?_
              first
                | exact ⟨rfl, hRel0⟩
                | (exfalso; omega)
                | (exfalso; simp (disch := omega) only [Int32.lt_iff_toInt_lt, Int32.le_iff_toInt_le, ← Int32.toInt_inj, Int32.reduceToInt, nI_toInt] at c3 c2LedcanAsk c5LedcanAsk m2MDisIn m5MDisIn; done)
                | (exfalso; simp (disch := omega) only [Int32.lt_iff_toInt_lt, Int32.le_iff_toInt_le, ← Int32.toInt_inj, Int32.reduceToInt, nI_toInt] at c3 c2LedcanAsk c5LedcanAsk m2MDisIn m5MDisIn; omega)
            · refine jr_ic rfl ?_
              refine jr_goto rfl ?_
              refine jr_zret rfl rfl rfl (Nat.zero_le _) (Nat.zero_le _) ?_
              refine jr_if_eq rfl (fun z => absurd z (by decide)) (fun _ => ?_)
              refine jr_iload rfl rfl ?_
              refine jr_ic rfl ?_
              refine jr_iload rfl rfl ?_
              refine jr_ic rfl ?_
              refine jr_isub rfl ?_
              refine jr_cs3 (mc' := 0) (ms' := 0) rfl jm_MD_isIn_n jm_MD_isIn_f rfl rfl rfl rfl rfl (Nat.zero_le _) (Nat.zero_le _) ?_
              show jx_W (jm_MD_isIn, _, _, _, _, _, _) _ 0 0 0 [some _, some _, some _] [] _
              refine jr_iload rfl rfl ?_
              refine jr_iload rfl rfl ?_
              refine jr_icmp_lt rfl (fun m2MDisIn_2 => ?_) (fun m2MDisIn_2 => ?_)
              · refine jr_ic rfl ?_
                refine jr_zret rfl rfl rfl (Nat.zero_le _) (Nat.zero_le _) ?_
                refine jr_if_eq rfl (fun _ => ?_) (fun z => absurd (by decide) z)
                refine jr_ic rfl ?_
                refine jr_iret rfl rfl (Nat.zero_le _) (Nat.zero_le _) ?_
                first
                  | exact ⟨rfl, hRel0⟩
                  | (exfalso; omega)
                  | (exfalso; simp (disch := omega) only [Int32.lt_iff_toInt_lt, Int32.le_iff_toInt_le, ← Int32.toInt_inj, Int32.reduceToInt, nI_toInt] at c3 c2LedcanAsk c5LedcanAsk m2MDisIn m5MDisIn m2MDisIn_2; done)
                  | (exfalso; simp (disch := omega) only [Int32.lt_iff_toInt_lt, Int32.le_iff_toInt_le, ← Int32.toInt_inj, Int32.reduceToInt, nI_toInt] at c3 c2LedcanAsk c5LedcanAsk m2MDisIn m5MDisIn m2MDisIn_2; omega)
              · refine jr_iload rfl rfl ?_
                refine jr_iload rfl rfl ?_
                refine jr_icmp_gt rfl (fun m5MDisIn_2 => ?_) (fun m5MDisIn_2 => ?_)
                · refine jr_ic rfl ?_
                  refine jr_zret rfl rfl rfl (Nat.zero_le _) (Nat.zero_le _) ?_
                  refine jr_if_eq rfl (fun _ => ?_) (fun z => absurd (by decide) z)
                  refine jr_ic rfl ?_
                  refine jr_iret rfl rfl (Nat.zero_le _) (Nat.zero_le _) ?_
                  first
                    | exact ⟨rfl, hRel0⟩
                    | (exfalso; omega)
                    | (exfalso; simp (disch := omega) only [Int32.lt_iff_toInt_lt, Int32.le_iff_toInt_le, ← Int32.toInt_inj, Int32.reduceToInt, nI_toInt] at c3 c2LedcanAsk c5LedcanAsk m2MDisIn m5MDisIn m2MDisIn_2 m5MDisIn_2; done)
                    | (exfalso; simp (disch := omega) only [Int32.lt_iff_toInt_lt, Int32.le_iff_toInt_le, ← Int32.toInt_inj, Int32.reduceToInt, nI_toInt] at c3 c2LedcanAsk c5LedcanAsk m2MDisIn m5MDisIn m2MDisIn_2 m5MDisIn_2; omega)
                · refine jr_ic rfl ?_
                  refine jr_goto rfl ?_
                  refine jr_zret rfl rfl rfl (Nat.zero_le _) (Nat.zero_le _) ?_
                  refine jr_if_eq rfl (fun z => absurd z (by decide)) (fun _ => ?_)
                  refine jr_aload rfl rfl ?_
                  refine jr_cv0 (mc' := 0) (ms' := 0) rfl jm_MD_hasMonths_n jm_MD_hasMonths_f rfl rfl rfl rfl rfl rfl rfl (Nat.zero_le _) (Nat.zero_le _) ?_
                  show jx_W (jm_MD_hasMonths, _, _, _, _, _, _) _ 0 0 0 [some _] [] _
                  refine jr_aload rfl rfl ?_
                  refine jr_getR rfl rfl rfl rfl (Or.inl rfl) ?_
                  refine jr_aload rfl rfl ?_
                  refine jr_getI rfl rfl ?_
                  refine jr_iald (len := 2) rfl rfl hw.1 (by omega) ?_
                  refine jr_if_le rfl (fun m5MDhasMonths => ?_) (fun m5MDhasMonths => ?_)
                  · refine jr_ic rfl ?_
                    refine jr_zret rfl rfl rfl (Nat.zero_le _) (Nat.zero_le _) ?_
                    refine jr_if_ne rfl (fun z => absurd (by decide) z) (fun _ => ?_)
                    refine jr_ic rfl ?_
                    refine jr_iret rfl rfl (Nat.zero_le _) (Nat.zero_le _) ?_
                    first
                      | exact ⟨rfl, hRel0⟩
                      | (exfalso; omega)
                      | (exfalso; simp (disch := omega) only [Int32.lt_iff_toInt_lt, Int32.le_iff_toInt_le, ← Int32.toInt_inj, Int32.reduceToInt, nI_toInt] at c3 c2LedcanAsk c5LedcanAsk m2MDisIn m5MDisIn m2MDisIn_2 m5MDisIn_2 m5MDhasMonths; done)
                      | (exfalso; simp (disch := omega) only [Int32.lt_iff_toInt_lt, Int32.le_iff_toInt_le, ← Int32.toInt_inj, Int32.reduceToInt, nI_toInt] at c3 c2LedcanAsk c5LedcanAsk m2MDisIn m5MDisIn m2MDisIn_2 m5MDisIn_2 m5MDhasMonths; omega)
                  · refine jr_ic rfl ?_
                    refine jr_goto rfl ?_
                    refine jr_zret rfl rfl rfl (Nat.zero_le _) (Nat.zero_le _) ?_
                    refine jr_if_ne rfl (fun _ => ?_) (fun z => absurd z (by decide))
                    refine jr_aload rfl rfl ?_
                    refine jr_iload rfl rfl ?_
                    refine jr_iload rfl rfl ?_
                    refine jr_cv2 (mc' := 0) (ms' := 0) rfl jm_MD_countRows_n jm_MD_countRows_f rfl rfl rfl rfl rfl rfl rfl (Nat.zero_le _) (Nat.zero_le _) ?_
                    first
                      | (exfalso; omega)
                      | (exfalso; simp (disch := omega) only [Int32.lt_iff_toInt_lt, Int32.le_iff_toInt_le, ← Int32.toInt_inj, Int32.reduceToInt, nI_toInt] at c3 c2LedcanAsk c5LedcanAsk m2MDisIn m5MDisIn m2MDisIn_2 m5MDisIn_2 m5MDhasMonths; done)
                      | (exfalso; simp (disch := omega) only [Int32.lt_iff_toInt_lt, Int32.le_iff_toInt_le, ← Int32.toInt_inj, Int32.reduceToInt, nI_toInt] at c3 c2LedcanAsk c5LedcanAsk m2MDisIn m5MDisIn m2MDisIn_2 m5MDisIn_2 m5MDhasMonths; omega)
        · refine jr_ic rfl ?_
          refine jr_goto rfl ?_
          refine jr_zret rfl rfl rfl (Nat.zero_le _) (Nat.zero_le _) ?_
          refine jr_if_eq rfl (fun z => absurd z (by decide)) (fun _ => ?_)
          refine jr_iload rfl rfl ?_
          refine jr_if_lt rfl (fun c10 => ?_) (fun c10 => ?_)
          · refine jr_ic rfl ?_
            refine jr_iret rfl rfl (Nat.zero_le _) (Nat.zero_le _) ?_
            show jx_W (jm_MD_known, d + 40, 0, 0, false, 1, _) _ 0 0 0 [some _, some _, some _, some _, some _, none] [] _
            refine jr_iload rfl rfl ?_
            refine jr_ic rfl ?_
            refine jr_ic rfl ?_
            refine jr_cs3 (mc' := 0) (ms' := 0) rfl jm_MD_isIn_n jm_MD_isIn_f rfl rfl rfl rfl rfl (Nat.zero_le _) (Nat.zero_le _) ?_
            show jx_W (jm_MD_isIn, _, _, _, _, _, _) _ 0 0 0 [some _, some _, some _] [] _
            refine jr_iload rfl rfl ?_
            refine jr_iload rfl rfl ?_
            refine jr_icmp_lt rfl (fun m2MDisIn => ?_) (fun m2MDisIn => ?_)
            · refine jr_ic rfl ?_
              refine jr_zret rfl rfl rfl (Nat.zero_le _) (Nat.zero_le _) ?_
              refine jr_if_eq rfl (fun _ => ?_) (fun z => absurd (by decide) z)
              refine jr_ic rfl ?_
              refine jr_iret rfl rfl (Nat.zero_le _) (Nat.zero_le _) ?_
              first
                | exact ⟨rfl, hRel0⟩
                | (exfalso; omega)
                | (exfalso; simp (disch := omega) only [Int32.lt_iff_toInt_lt, Int32.le_iff_toInt_le, ← Int32.toInt_inj, Int32.reduceToInt, nI_toInt] at c3 c2LedcanAsk c5LedcanAsk c10 m2MDisIn; done)
                | (exfalso; simp (disch := omega) only [Int32.lt_iff_toInt_lt, Int32.le_iff_toInt_le, ← Int32.toInt_inj, Int32.reduceToInt, nI_toInt] at c3 c2LedcanAsk c5LedcanAsk c10 m2MDisIn; omega)
            · refine jr_iload rfl rfl ?_
              refine jr_iload rfl rfl ?_
              refine jr_icmp_gt rfl (fun m5MDisIn => ?_) (fun m5MDisIn => ?_)
              · refine jr_ic rfl ?_
                refine jr_zret rfl rfl rfl (Nat.zero_le _) (Nat.zero_le _) ?_
                refine jr_if_eq rfl (fun _ => ?_) (fun z => absurd (by decide) z)
                refine jr_ic rfl ?_
                refine jr_iret rfl rfl (Nat.zero_le _) (Nat.zero_le _) ?_
                first
                  | exact ⟨rfl, hRel0⟩
                  | (exfalso; omega)
                  | (exfalso; simp (disch := omega) only [Int32.lt_iff_toInt_lt, Int32.le_iff_toInt_le, ← Int32.toInt_inj, Int32.reduceToInt, nI_toInt] at c3 c2LedcanAsk c5LedcanAsk c10 m2MDisIn m5MDisIn; done)
                  | (exfalso; simp (disch := omega) only [Int32.lt_iff_toInt_lt, Int32.le_iff_toInt_le, ← Int32.toInt_inj, Int32.reduceToInt, nI_toInt] at c3 c2LedcanAsk c5LedcanAsk c10 m2MDisIn m5MDisIn; omega)
              · refine jr_ic rfl ?_
                refine jr_goto rfl ?_
                refine jr_zret rfl rfl rfl (Nat.zero_le _) (Nat.zero_le _) ?_
                refine jr_if_eq rfl (fun z => absurd z (by decide)) (fun _ => ?_)
                refine jr_iload rfl rfl ?_
                refine jr_ic rfl ?_
                refine jr_iload rfl rfl ?_
                refine jr_ic rfl ?_
                refine jr_isub rfl ?_
                refine jr_cs3 (mc' := 0) (ms' := 0) rfl jm_MD_isIn_n jm_MD_isIn_f rfl rfl rfl rfl rfl (Nat.zero_le _) (Nat.zero_le _) ?_
                show jx_W (jm_MD_isIn, _, _, _, _, _, _) _ 0 0 0 [some _, some _, some _] [] _
                refine jr_iload rfl rfl ?_
                refine jr_iload rfl rfl ?_
                refine jr_icmp_lt rfl (fun m2MDisIn_2 => ?_) (fun m2MDisIn_2 => ?_)
                · refine jr_ic rfl ?_
                  refine jr_zret rfl rfl rfl (Nat.zero_le _) (Nat.zero_le _) ?_
                  refine jr_if_eq rfl (fun _ => ?_) (fun z => absurd (by decide) z)
                  refine jr_ic rfl ?_
                  refine jr_iret rfl rfl (Nat.zero_le _) (Nat.zero_le _) ?_
                  first
                    | exact ⟨rfl, hRel0⟩
                    | (exfalso; omega)
                    | (exfalso; simp (disch := omega) only [Int32.lt_iff_toInt_lt, Int32.le_iff_toInt_le, ← Int32.toInt_inj, Int32.reduceToInt, nI_toInt] at c3 c2LedcanAsk c5LedcanAsk c10 m2MDisIn m5MDisIn m2MDisIn_2; done)
                    | (exfalso; simp (disch := omega) only [Int32.lt_iff_toInt_lt, Int32.le_iff_toInt_le, ← Int32.toInt_inj, Int32.reduceToInt, nI_toInt] at c3 c2LedcanAsk c5LedcanAsk c10 m2MDisIn m5MDisIn m2MDisIn_2; omega)
                · refine jr_iload rfl rfl ?_
                  refine jr_iload rfl rfl ?_
                  refine jr_icmp_gt rfl (fun m5MDisIn_2 => ?_) (fun m5MDisIn_2 => ?_)
                  · refine jr_ic rfl ?_
                    refine jr_zret rfl rfl rfl (Nat.zero_le _) (Nat.zero_le _) ?_
                    refine jr_if_eq rfl (fun _ => ?_) (fun z => absurd (by decide) z)
                    refine jr_ic rfl ?_
                    refine jr_iret rfl rfl (Nat.zero_le _) (Nat.zero_le _) ?_
                    first
                      | exact ⟨rfl, hRel0⟩
                      | (exfalso; omega)
                      | (exfalso; simp (disch := omega) only [Int32.lt_iff_toInt_lt, Int32.le_iff_toInt_le, ← Int32.toInt_inj, Int32.reduceToInt, nI_toInt] at c3 c2LedcanAsk c5LedcanAsk c10 m2MDisIn m5MDisIn m2MDisIn_2 m5MDisIn_2; done)
                      | (exfalso; simp (disch := omega) only [Int32.lt_iff_toInt_lt, Int32.le_iff_toInt_le, ← Int32.toInt_inj, Int32.reduceToInt, nI_toInt] at c3 c2LedcanAsk c5LedcanAsk c10 m2MDisIn m5MDisIn m2MDisIn_2 m5MDisIn_2; omega)
                  · refine jr_ic rfl ?_
                    refine jr_goto rfl ?_
                    refine jr_zret rfl rfl rfl (Nat.zero_le _) (Nat.zero_le _) ?_
                    refine jr_if_eq rfl (fun z => absurd z (by decide)) (fun _ => ?_)
                    refine jr_aload rfl rfl ?_
                    refine jr_cv0 (mc' := 0) (ms' := 0) rfl jm_MD_hasMonths_n jm_MD_hasMonths_f rfl rfl rfl rfl rfl rfl rfl (Nat.zero_le _) (Nat.zero_le _) ?_
                    show jx_W (jm_MD_hasMonths, _, _, _, _, _, _) _ 0 0 0 [some _] [] _
                    refine jr_aload rfl rfl ?_
                    refine jr_getR rfl rfl rfl rfl (Or.inl rfl) ?_
                    refine jr_aload rfl rfl ?_
                    refine jr_getI rfl rfl ?_
                    refine jr_iald (len := 2) rfl rfl hw.1 (by omega) ?_
                    refine jr_if_le rfl (fun m5MDhasMonths => ?_) (fun m5MDhasMonths => ?_)
                    · refine jr_ic rfl ?_
                      refine jr_zret rfl rfl rfl (Nat.zero_le _) (Nat.zero_le _) ?_
                      refine jr_if_ne rfl (fun z => absurd (by decide) z) (fun _ => ?_)
                      refine jr_ic rfl ?_
                      refine jr_iret rfl rfl (Nat.zero_le _) (Nat.zero_le _) ?_
                      first
                        | exact ⟨rfl, hRel0⟩
                        | (exfalso; omega)
                        | (exfalso; simp (disch := omega) only [Int32.lt_iff_toInt_lt, Int32.le_iff_toInt_le, ← Int32.toInt_inj, Int32.reduceToInt, nI_toInt] at c3 c2LedcanAsk c5LedcanAsk c10 m2MDisIn m5MDisIn m2MDisIn_2 m5MDisIn_2 m5MDhasMonths; done)
                        | (exfalso; simp (disch := omega) only [Int32.lt_iff_toInt_lt, Int32.le_iff_toInt_le, ← Int32.toInt_inj, Int32.reduceToInt, nI_toInt] at c3 c2LedcanAsk c5LedcanAsk c10 m2MDisIn m5MDisIn m2MDisIn_2 m5MDisIn_2 m5MDhasMonths; omega)
                    · refine jr_ic rfl ?_
                      refine jr_goto rfl ?_
                      refine jr_zret rfl rfl rfl (Nat.zero_le _) (Nat.zero_le _) ?_
                      refine jr_if_ne rfl (fun _ => ?_) (fun z => absurd z (by decide))
                      refine jr_aload rfl rfl ?_
                      refine jr_iload rfl rfl ?_
                      refine jr_iload rfl rfl ?_
                      refine jr_cv2 (mc' := 0) (ms' := 0) rfl jm_MD_countRows_n jm_MD_countRows_f rfl rfl rfl rfl rfl rfl rfl (Nat.zero_le _) (Nat.zero_le _) ?_
                      first
                        | (exfalso; omega)
                        | (exfalso; simp (disch := omega) only [Int32.lt_iff_toInt_lt, Int32.le_iff_toInt_le, ← Int32.toInt_inj, Int32.reduceToInt, nI_toInt] at c3 c2LedcanAsk c5LedcanAsk c10 m2MDisIn m5MDisIn m2MDisIn_2 m5MDisIn_2 m5MDhasMonths; done)
                        | (exfalso; simp (disch := omega) only [Int32.lt_iff_toInt_lt, Int32.le_iff_toInt_le, ← Int32.toInt_inj, Int32.reduceToInt, nI_toInt] at c3 c2LedcanAsk c5LedcanAsk c10 m2MDisIn m5MDisIn m2MDisIn_2 m5MDisIn_2 m5MDhasMonths; omega)
          · refine jr_iload rfl rfl ?_
            refine jr_iload rfl rfl ?_
            refine jr_icmp_lt rfl (fun c13 => ?_) (fun c13 => ?_)
            · refine jr_aload rfl rfl ?_
              refine jr_getR rfl rfl rfl rfl (Or.inl rfl) ?_
              refine jr_aload rfl rfl ?_
              refine jr_getM rfl rfl rfl rfl hto ?_
              refine jr_iload rfl rfl ?_
              refine jr_iload rfl rfl ?_
              refine jr_cv3 (mc' := 0) (ms' := 0) rfl jm_Led_rows_n jm_Led_rows_f rfl rfl rfl rfl rfl rfl rfl (Nat.zero_le _) (Nat.zero_le _) ?_
              first
                | (exfalso; omega)
                | (exfalso; simp (disch := omega) only [Int32.lt_iff_toInt_lt, Int32.le_iff_toInt_le, ← Int32.toInt_inj, Int32.reduceToInt, nI_toInt] at c3 c2LedcanAsk c5LedcanAsk c10 c13; done)
                | (exfalso; simp (disch := omega) only [Int32.lt_iff_toInt_lt, Int32.le_iff_toInt_le, ← Int32.toInt_inj, Int32.reduceToInt, nI_toInt] at c3 c2LedcanAsk c5LedcanAsk c10 c13; omega)
            · refine jr_ic rfl ?_
              refine jr_iret rfl rfl (Nat.zero_le _) (Nat.zero_le _) ?_
              show jx_W (jm_MD_known, d + 40, 0, 0, false, 1, _) _ 0 0 0 [some _, some _, some _, some _, some _, none] [] _
              refine jr_iload rfl rfl ?_
              refine jr_ic rfl ?_
              refine jr_ic rfl ?_
              refine jr_cs3 (mc' := 0) (ms' := 0) rfl jm_MD_isIn_n jm_MD_isIn_f rfl rfl rfl rfl rfl (Nat.zero_le _) (Nat.zero_le _) ?_
              show jx_W (jm_MD_isIn, _, _, _, _, _, _) _ 0 0 0 [some _, some _, some _] [] _
              refine jr_iload rfl rfl ?_
              refine jr_iload rfl rfl ?_
              refine jr_icmp_lt rfl (fun m2MDisIn => ?_) (fun m2MDisIn => ?_)
              · refine jr_ic rfl ?_
                refine jr_zret rfl rfl rfl (Nat.zero_le _) (Nat.zero_le _) ?_
                refine jr_if_eq rfl (fun _ => ?_) (fun z => absurd (by decide) z)
                refine jr_ic rfl ?_
                refine jr_iret rfl rfl (Nat.zero_le _) (Nat.zero_le _) ?_
                first
                  | exact ⟨rfl, hRel0⟩
                  | (exfalso; omega)
                  | (exfalso; simp (disch := omega) only [Int32.lt_iff_toInt_lt, Int32.le_iff_toInt_le, ← Int32.toInt_inj, Int32.reduceToInt, nI_toInt] at c3 c2LedcanAsk c5LedcanAsk c10 c13 m2MDisIn; done)
                  | (exfalso; simp (disch := omega) only [Int32.lt_iff_toInt_lt, Int32.le_iff_toInt_le, ← Int32.toInt_inj, Int32.reduceToInt, nI_toInt] at c3 c2LedcanAsk c5LedcanAsk c10 c13 m2MDisIn; omega)
              · refine jr_iload rfl rfl ?_
                refine jr_iload rfl rfl ?_
                refine jr_icmp_gt rfl (fun m5MDisIn => ?_) (fun m5MDisIn => ?_)
                · refine jr_ic rfl ?_
                  refine jr_zret rfl rfl rfl (Nat.zero_le _) (Nat.zero_le _) ?_
                  refine jr_if_eq rfl (fun _ => ?_) (fun z => absurd (by decide) z)
                  refine jr_ic rfl ?_
                  refine jr_iret rfl rfl (Nat.zero_le _) (Nat.zero_le _) ?_
                  first
                    | exact ⟨rfl, hRel0⟩
                    | (exfalso; omega)
                    | (exfalso; simp (disch := omega) only [Int32.lt_iff_toInt_lt, Int32.le_iff_toInt_le, ← Int32.toInt_inj, Int32.reduceToInt, nI_toInt] at c3 c2LedcanAsk c5LedcanAsk c10 c13 m2MDisIn m5MDisIn; done)
                    | (exfalso; simp (disch := omega) only [Int32.lt_iff_toInt_lt, Int32.le_iff_toInt_le, ← Int32.toInt_inj, Int32.reduceToInt, nI_toInt] at c3 c2LedcanAsk c5LedcanAsk c10 c13 m2MDisIn m5MDisIn; omega)
                · refine jr_ic rfl ?_
                  refine jr_goto rfl ?_
                  refine jr_zret rfl rfl rfl (Nat.zero_le _) (Nat.zero_le _) ?_
                  refine jr_if_eq rfl (fun z => absurd z (by decide)) (fun _ => ?_)
                  refine jr_iload rfl rfl ?_
                  refine jr_ic rfl ?_
                  refine jr_iload rfl rfl ?_
                  refine jr_ic rfl ?_
                  refine jr_isub rfl ?_
                  refine jr_cs3 (mc' := 0) (ms' := 0) rfl jm_MD_isIn_n jm_MD_isIn_f rfl rfl rfl rfl rfl (Nat.zero_le _) (Nat.zero_le _) ?_
                  show jx_W (jm_MD_isIn, _, _, _, _, _, _) _ 0 0 0 [some _, some _, some _] [] _
                  refine jr_iload rfl rfl ?_
                  refine jr_iload rfl rfl ?_
                  refine jr_icmp_lt rfl (fun m2MDisIn_2 => ?_) (fun m2MDisIn_2 => ?_)
                  · refine jr_ic rfl ?_
                    refine jr_zret rfl rfl rfl (Nat.zero_le _) (Nat.zero_le _) ?_
                    refine jr_if_eq rfl (fun _ => ?_) (fun z => absurd (by decide) z)
                    refine jr_ic rfl ?_
                    refine jr_iret rfl rfl (Nat.zero_le _) (Nat.zero_le _) ?_
                    first
                      | exact ⟨rfl, hRel0⟩
                      | (exfalso; omega)
                      | (exfalso; simp (disch := omega) only [Int32.lt_iff_toInt_lt, Int32.le_iff_toInt_le, ← Int32.toInt_inj, Int32.reduceToInt, nI_toInt] at c3 c2LedcanAsk c5LedcanAsk c10 c13 m2MDisIn m5MDisIn m2MDisIn_2; done)
                      | (exfalso; simp (disch := omega) only [Int32.lt_iff_toInt_lt, Int32.le_iff_toInt_le, ← Int32.toInt_inj, Int32.reduceToInt, nI_toInt] at c3 c2LedcanAsk c5LedcanAsk c10 c13 m2MDisIn m5MDisIn m2MDisIn_2; omega)
                  · refine jr_iload rfl rfl ?_
                    refine jr_iload rfl rfl ?_
                    refine jr_icmp_gt rfl (fun m5MDisIn_2 => ?_) (fun m5MDisIn_2 => ?_)
                    · refine jr_ic rfl ?_
                      refine jr_zret rfl rfl rfl (Nat.zero_le _) (Nat.zero_le _) ?_
                      refine jr_if_eq rfl (fun _ => ?_) (fun z => absurd (by decide) z)
                      refine jr_ic rfl ?_
                      refine jr_iret rfl rfl (Nat.zero_le _) (Nat.zero_le _) ?_
                      first
                        | exact ⟨rfl, hRel0⟩
                        | (exfalso; omega)
                        | (exfalso; simp (disch := omega) only [Int32.lt_iff_toInt_lt, Int32.le_iff_toInt_le, ← Int32.toInt_inj, Int32.reduceToInt, nI_toInt] at c3 c2LedcanAsk c5LedcanAsk c10 c13 m2MDisIn m5MDisIn m2MDisIn_2 m5MDisIn_2; done)
                        | (exfalso; simp (disch := omega) only [Int32.lt_iff_toInt_lt, Int32.le_iff_toInt_le, ← Int32.toInt_inj, Int32.reduceToInt, nI_toInt] at c3 c2LedcanAsk c5LedcanAsk c10 c13 m2MDisIn m5MDisIn m2MDisIn_2 m5MDisIn_2; omega)
                    · refine jr_ic rfl ?_
                      refine jr_goto rfl ?_
                      refine jr_zret rfl rfl rfl (Nat.zero_le _) (Nat.zero_le _) ?_
                      refine jr_if_eq rfl (fun z => absurd z (by decide)) (fun _ => ?_)
                      refine jr_aload rfl rfl ?_
                      refine jr_cv0 (mc' := 0) (ms' := 0) rfl jm_MD_hasMonths_n jm_MD_hasMonths_f rfl rfl rfl rfl rfl rfl rfl (Nat.zero_le _) (Nat.zero_le _) ?_
                      show jx_W (jm_MD_hasMonths, _, _, _, _, _, _) _ 0 0 0 [some _] [] _
                      refine jr_aload rfl rfl ?_
                      refine jr_getR rfl rfl rfl rfl (Or.inl rfl) ?_
                      refine jr_aload rfl rfl ?_
                      refine jr_getI rfl rfl ?_
                      refine jr_iald (len := 2) rfl rfl hw.1 (by omega) ?_
                      refine jr_if_le rfl (fun m5MDhasMonths => ?_) (fun m5MDhasMonths => ?_)
                      · refine jr_ic rfl ?_
                        refine jr_zret rfl rfl rfl (Nat.zero_le _) (Nat.zero_le _) ?_
                        refine jr_if_ne rfl (fun z => absurd (by decide) z) (fun _ => ?_)
                        refine jr_ic rfl ?_
                        refine jr_iret rfl rfl (Nat.zero_le _) (Nat.zero_le _) ?_
                        first
                          | exact ⟨rfl, hRel0⟩
                          | (exfalso; omega)
                          | (exfalso; simp (disch := omega) only [Int32.lt_iff_toInt_lt, Int32.le_iff_toInt_le, ← Int32.toInt_inj, Int32.reduceToInt, nI_toInt] at c3 c2LedcanAsk c5LedcanAsk c10 c13 m2MDisIn m5MDisIn m2MDisIn_2 m5MDisIn_2 m5MDhasMonths; done)
                          | (exfalso; simp (disch := omega) only [Int32.lt_iff_toInt_lt, Int32.le_iff_toInt_le, ← Int32.toInt_inj, Int32.reduceToInt, nI_toInt] at c3 c2LedcanAsk c5LedcanAsk c10 c13 m2MDisIn m5MDisIn m2MDisIn_2 m5MDisIn_2 m5MDhasMonths; omega)
                      · refine jr_ic rfl ?_
                        refine jr_goto rfl ?_
                        refine jr_zret rfl rfl rfl (Nat.zero_le _) (Nat.zero_le _) ?_
                        refine jr_if_ne rfl (fun _ => ?_) (fun z => absurd z (by decide))
                        refine jr_aload rfl rfl ?_
                        refine jr_iload rfl rfl ?_
                        refine jr_iload rfl rfl ?_
                        refine jr_cv2 (mc' := 0) (ms' := 0) rfl jm_MD_countRows_n jm_MD_countRows_f rfl rfl rfl rfl rfl rfl rfl (Nat.zero_le _) (Nat.zero_le _) ?_
                        first
                          | (exfalso; omega)
                          | (exfalso; simp (disch := omega) only [Int32.lt_iff_toInt_lt, Int32.le_iff_toInt_le, ← Int32.toInt_inj, Int32.reduceToInt, nI_toInt] at c3 c2LedcanAsk c5LedcanAsk c10 c13 m2MDisIn m5MDisIn m2MDisIn_2 m5MDisIn_2 m5MDhasMonths; done)
                          | (exfalso; simp (disch := omega) only [Int32.lt_iff_toInt_lt, Int32.le_iff_toInt_le, ← Int32.toInt_inj, Int32.reduceToInt, nI_toInt] at c3 c2LedcanAsk c5LedcanAsk c10 c13 m2MDisIn m5MDisIn m2MDisIn_2 m5MDisIn_2 m5MDhasMonths; omega)

